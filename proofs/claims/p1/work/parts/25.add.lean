theorem dJx4a65c_grow_92f84_0 : decode cJx4a65c_grow_92f84 0 = .ok (.aload_n 0, 1) := by decide +kernel
theorem dJx4a65c_grow_92f84_1 : decode cJx4a65c_grow_92f84 1 = .ok (.getfield 9, 3) := by decide +kernel
theorem dJx4a65c_grow_92f84_4 : decode cJx4a65c_grow_92f84 4 = .ok (.arraylength, 1) := by decide +kernel
theorem dJx4a65c_grow_92f84_5 : decode cJx4a65c_grow_92f84 5 = .ok (.istore_n 2, 1) := by decide +kernel
theorem dJx4a65c_grow_92f84_6 : decode cJx4a65c_grow_92f84 6 = .ok (.iload_n 2, 1) := by decide +kernel
theorem dJx4a65c_grow_92f84_7 : decode cJx4a65c_grow_92f84 7 = .ok (.ifCond .gt 13, 3) := by decide +kernel
theorem dJx4a65c_grow_92f84_10 : decode cJx4a65c_grow_92f84 10 = .ok (.aload_n 0, 1) := by decide +kernel
theorem dJx4a65c_grow_92f84_11 : decode cJx4a65c_grow_92f84 11 = .ok (.getfield 9, 3) := by decide +kernel
theorem dJx4a65c_grow_92f84_14 : decode cJx4a65c_grow_92f84 14 = .ok (.getstatic 39, 3) := by decide +kernel
theorem dJx4a65c_grow_92f84_17 : decode cJx4a65c_grow_92f84 17 = .ok (.if_acmp .eq 28, 3) := by decide +kernel
theorem dJx4a65c_grow_92f84_45 : decode cJx4a65c_grow_92f84 45 = .ok (.aload_n 0, 1) := by decide +kernel
theorem dJx4a65c_grow_92f84_46 : decode cJx4a65c_grow_92f84 46 = .ok (.bipush 10, 2) := by decide +kernel
theorem dJx4a65c_grow_92f84_48 : decode cJx4a65c_grow_92f84 48 = .ok (.iload_n 1, 1) := by decide +kernel
theorem dJx4a65c_grow_92f84_49 : decode cJx4a65c_grow_92f84 49 = .ok (.invokestatic 79, 3) := by decide +kernel
theorem zw_1219 : Cond.methodLink RJx4a65c 79 yJ9_max_7cf53 ∈ z_Ts := z_m 1219 (by decide +kernel) (by decide +kernel)
theorem dJx4a65c_grow_92f84_52 : decode cJx4a65c_grow_92f84 52 = .ok (.anewarray 7, 3) := by decide +kernel
theorem zw_1220 : Cond.classLink RJx4a65c 7 "java/lang/Object" ∈ z_Ts := z_m 1220 (by decide +kernel) (by decide +kernel)
theorem zw_1215 : Cond.arrayOver (.object "java/lang/Object") ∈ z_Ts := z_m 1215 (by decide +kernel) (by decide +kernel)
theorem dJx4a65c_grow_92f84_55 : decode cJx4a65c_grow_92f84 55 = .ok (.dup_x1, 1) := by decide +kernel
theorem dJx4a65c_grow_92f84_56 : decode cJx4a65c_grow_92f84 56 = .ok (.putfield 9, 3) := by decide +kernel
theorem dJx4a65c_grow_92f84_59 : decode cJx4a65c_grow_92f84 59 = .ok (.areturn, 1) := by decide +kernel
set_option maxHeartbeats 4000000 in
set_option maxRecDepth 100000 in
theorem c_al_grow2 (l : Launch) (D : va_G) (q : Nat) (mc : Int32) (sz : Nat)  : Met l yJx4a65c_grow_92f84 [Cond.code yJx4a65c_grow_92f84 cJx4a65c_grow_92f84 4 (some (.array (.object "java/lang/Object")))] ({ frames := 1, cells := 1, slots := 10, locals := 40 }) (z_Pc D [.ref q, .int 1] [(q, .inr (1, [.int mc, .ref (D.2 50 0), .int 0]))] [] sz) (va_Qr (fun _ : Unit => True) (fun _ r t => ∃ cA : ClassId, z_W D [(q, .inr (1, [.int mc, .ref r, .int 0])), (r, .inl (cA, 10, .inr (.inr (.inr (.inr (fun _ => none))))))] [(cA, .object "java/lang/Object")] (va_A [(q, .inr (1, [.int mc, .ref (D.2 50 0), .int 0]))] sz) t) (va_A [(q, .inr (1, [.int mc, .ref (D.2 50 0), .int 0]))] sz)) 1 10 (va_A [(q, .inr (1, [.int mc, .ref (D.2 50 0), .int 0]))] sz) := by
  refine Met.ofW (cc := cJx4a65c_grow_92f84) (maxL := 4) (ret := (some (.array (.object "java/lang/Object")))) (by decide +kernel) rfl ?_
  intro p e s m args below meth c s₁ B hml hv
  obtain ⟨rfl, hsz, hP, hK, hD0, hE, hX0⟩ := hv
  have hx := B.exec
  have hb := B.bytes
  have hr := B.returns
  have hts := z_E.ts (args := [.ref q, .int 1].toArray) hE
  have hown : s.vm.findClass RJx4a65c = some m.cls := findClass_of_methodNamed B.named
  have hlocks := B.notSynchronized
  subst hsz
  have hD := hD0.self (sz := s.heap.size)
  generalize hAe : va_A [(q, .inr (1, [.int mc, .ref (D.2 50 0), .int 0]))] s.heap.size = A at hD hX0 ⊢
  have hX : z_X D A s s.heap := hX0
  have hA : ∀ q : Nat, s.heap.size ≤ q → A q := fun q h => by rw [← hAe]; exact Or.inr h
  have hS : va_S A s.heap s.heap [] := va_S.rf
  have hP : va_P D vwCl [(q, .inr (1, [.int mc, .ref (D.2 50 0), .int 0]))] s.heap := hP
  have hl := lv_entry ([.ref q, .int 1]) (n := 4) (Nat.le_of_ble_eq_true rfl)
  rw [lg_entry_eq]
  generalize (lg_sl ([.ref q, .int 1]) ++ List.replicate (4 - (lg_sl ([.ref q, .int 1])).length) Slot.unset).toArray = ls at hl ⊢
  have hl : lv_has ls 4 [(0, .ref q), (1, .int 1)] := hl
  skip
  refine lv_aload_n hx hb dJx4a65c_grow_92f84_0 rfl (lv_at hl 0 rfl) ?_
  refine va_get (D := D) (ci := 1) (v := .ref (D.2 50 0)) (C := RJx4a65c) (T := TJx4a65c) (N := 3) hx hb hts zin_Jx4a65c hown hK hP 0 rfl rfl 1 (by decide) (hts _ zw_1065) (fun _ h9 => h9) rfl dJx4a65c_grow_92f84_1 ?_
  refine va_tlen (v := 0) hx hb hX.2.2.1.2 hS (by decide) dJx4a65c_grow_92f84_4 ?_
  refine lv_istore_n (lv' := [(2, .int 0), (0, .ref q), (1, .int 1)]) hx hb dJx4a65c_grow_92f84_5 rfl hl (by decide) rfl (fun ls hl => ?_)
  refine lv_iload_n hx hb dJx4a65c_grow_92f84_6 rfl (lv_at hl 0 rfl) ?_
  refine lv_if_gt (tgt := 20) hx hb dJx4a65c_grow_92f84_7 (by decide) (fun c_1 => absurd c_1 (by decide)) (fun c_1 => ?_)
  refine lv_aload_n hx hb dJx4a65c_grow_92f84_10 rfl (lv_at hl 1 rfl) ?_
  refine va_get (D := D) (ci := 1) (v := .ref (D.2 50 0)) (C := RJx4a65c) (T := TJx4a65c) (N := 3) hx hb hts zin_Jx4a65c hown hK hP 0 rfl rfl 1 (by decide) (hts _ zw_1065) (fun _ h9 => h9) rfl dJx4a65c_grow_92f84_11 ?_
  refine va_gets (v := .ref (D.2 50 0)) hx hb hX.2.2.1.1 hS hown (hts _ zw_1063) (fun _ h9 => h9) dJx4a65c_grow_92f84_14 ?_
  refine lv_acmp_eq (rx := some (D.2 50 0)) (ry := some (D.2 50 0)) (tgt := 45) hx hb dJx4a65c_grow_92f84_17 (by decide) (fun c_2 => ?_) (fun c_2 => absurd rfl c_2)
  refine lv_aload_n hx hb dJx4a65c_grow_92f84_45 rfl (lv_at hl 1 rfl) ?_
  refine lv_bipush (v := 10) hx hb dJx4a65c_grow_92f84_46 (by decide) ?_
  refine lv_iload_n hx hb dJx4a65c_grow_92f84_48 rfl (lv_at hl 2 rfl) ?_
  refine va_mmax hx hb (hml.trans hl.1.symm) hown (hts _ zw_1219) (hts _ zw_774) (hts _ zw_108) (hts _ zw_775) (Nat.le_of_ble_eq_true rfl) (Nat.le_of_ble_eq_true rfl) (Nat.le_of_ble_eq_true rfl) (Nat.le_of_ble_eq_true rfl) dJx4a65c_grow_92f84_49 ?_
  refine lv_topi (fun x_3 ex_3 => ?_)
  obtain rfl : x_3 = 10 := ex_3.trans (by first | rfl | decide | simp)
  refine va_newq (N' := 10) hx hb hown (hts _ zw_1220) (hE _ zw_1215) hK hP hD hS hA (by decide) (by decide) (by decide) (Nat.le_of_ble_eq_true rfl) (Nat.le_of_ble_eq_true rfl) dJx4a65c_grow_92f84_52 (fun q_4 cA_5 H hK hP hD hS => ?_)
  have hP : va_P D vwCl [(q, .inr (1, [.int mc, .ref (D.2 50 0), .int 0])), (q_4, .inl (cA_5, 10, .inr (.inr (.inr (.inr (fun _ => none))))))] H := hP
  have hD : va_D A [(q, .inr (1, [.int mc, .ref (D.2 50 0), .int 0])), (q_4, .inl (cA_5, 10, .inr (.inr (.inr (.inr (fun _ => none))))))] := hD
  have hK : va_K D vwCl [(cA_5, .object "java/lang/Object")] s := hK
  refine lv_dup_x1 hx hb dJx4a65c_grow_92f84_55 rfl rfl ?_
  refine va_put (D := D) (ci := 1) (v := .ref q_4) (ty := .array (.object "java/lang/Object")) (C := RJx4a65c) (T := TJx4a65c) (N := 3) hx hb hts zin_Jx4a65c tyJx4a65c tyJx4a65c_ok nmJx4a65c hown hK hP hD hS 0 rfl rfl 1 (by decide) (hts _ zw_1065) (fun _ h9 => h9) rfl (by decide +kernel) rfl rfl (Nat.le_of_ble_eq_true rfl) dJx4a65c_grow_92f84_56 (fun H locs hP hD hS => ?_)
  have hP : va_P D vwCl [(q, .inr (1, [.int mc, .ref q_4, .int 0])), (q_4, .inl (cA_5, 10, .inr (.inr (.inr (.inr (fun _ => none))))))] H := hP
  have hD : va_D A [(q, .inr (1, [.int mc, .ref q_4, .int 0])), (q_4, .inl (cA_5, 10, .inr (.inr (.inr (.inr (fun _ => none))))))] := hD
  exact W.aret (v := .ref q_4) hx hb hr (Or.inr ⟨_, rfl⟩) (Or.inr ⟨_, rfl⟩) (fun t ht hW => ⟨⟨(), q_4, rfl, trivial, ⟨cA_5, z_end hP hK hD [0, 1] rfl rfl [0] rfl ht hW.alike⟩⟩, hS.F ht⟩) hS.2.2 dJx4a65c_grow_92f84_59
theorem dJx4a65c_grow_d5877_0 : decode cJx4a65c_grow_d5877 0 = .ok (.aload_n 0, 1) := by decide +kernel
theorem dJx4a65c_grow_d5877_1 : decode cJx4a65c_grow_d5877 1 = .ok (.aload_n 0, 1) := by decide +kernel
theorem dJx4a65c_grow_d5877_2 : decode cJx4a65c_grow_d5877 2 = .ok (.getfield 48, 3) := by decide +kernel
theorem dJx4a65c_grow_d5877_5 : decode cJx4a65c_grow_d5877 5 = .ok (.iconst 1, 1) := by decide +kernel
theorem dJx4a65c_grow_d5877_6 : decode cJx4a65c_grow_d5877 6 = .ok (.iadd, 1) := by decide +kernel
theorem dJx4a65c_grow_d5877_7 : decode cJx4a65c_grow_d5877 7 = .ok (.invokevirtual 69, 3) := by decide +kernel
theorem zw_1176 : Cond.methodLink RJx4a65c 69 yJx4a65c_grow_92f84 ∈ z_Ts := z_m 1176 (by decide +kernel) (by decide +kernel)
theorem zw_1178 : Cond.instanceMethod yJx4a65c_grow_92f84 ∈ z_Ts := z_m 1178 (by decide +kernel) (by decide +kernel)
theorem zw_61 : Cond.selects RJx4a65c yJx4a65c_grow_92f84 yJx4a65c_grow_92f84 ∈ z_Ts := z_m 61 (by decide +kernel) (by decide +kernel)
theorem zw_1179 : Cond.code yJx4a65c_grow_92f84 cJx4a65c_grow_92f84 4 (some (.array (.object "java/lang/Object"))) ∈ z_Ts := z_m 1179 (by decide +kernel) (by decide +kernel)
theorem dJx4a65c_grow_d5877_10 : decode cJx4a65c_grow_d5877 10 = .ok (.areturn, 1) := by decide +kernel
set_option maxHeartbeats 4000000 in
set_option maxRecDepth 100000 in
theorem c_al_grow1 (l : Launch) (D : va_G) (q : Nat) (mc : Int32) (sz : Nat)  : Met l yJx4a65c_grow_d5877 [Cond.code yJx4a65c_grow_d5877 cJx4a65c_grow_d5877 1 (some (.array (.object "java/lang/Object")))] ({ frames := 2, cells := 1, slots := 10, locals := 80 }) (z_Pc D [.ref q] [(q, .inr (1, [.int mc, .ref (D.2 50 0), .int 0]))] [] sz) (va_Qr (fun _ : Unit => True) (fun _ r t => ∃ cA : ClassId, z_W D [(q, .inr (1, [.int mc, .ref r, .int 0])), (r, .inl (cA, 10, .inr (.inr (.inr (.inr (fun _ => none))))))] [(cA, .object "java/lang/Object")] (va_A [(q, .inr (1, [.int mc, .ref (D.2 50 0), .int 0]))] sz) t) (va_A [(q, .inr (1, [.int mc, .ref (D.2 50 0), .int 0]))] sz)) 1 10 (va_A [(q, .inr (1, [.int mc, .ref (D.2 50 0), .int 0]))] sz) := by
  refine Met.ofW (cc := cJx4a65c_grow_d5877) (maxL := 1) (ret := (some (.array (.object "java/lang/Object")))) (by decide +kernel) rfl ?_
  intro p e s m args below meth c s₁ B hml hv
  obtain ⟨rfl, hsz, hP, hK, hD0, hE, hX0⟩ := hv
  have hx := B.exec
  have hb := B.bytes
  have hr := B.returns
  have hts := z_E.ts (args := [.ref q].toArray) hE
  have hown : s.vm.findClass RJx4a65c = some m.cls := findClass_of_methodNamed B.named
  have hlocks := B.notSynchronized
  subst hsz
  have hD := hD0.self (sz := s.heap.size)
  generalize hAe : va_A [(q, .inr (1, [.int mc, .ref (D.2 50 0), .int 0]))] s.heap.size = A at hD hX0 ⊢
  have hX : z_X D A s s.heap := hX0
  have hA : ∀ q : Nat, s.heap.size ≤ q → A q := fun q h => by rw [← hAe]; exact Or.inr h
  have hS : va_S A s.heap s.heap [] := va_S.rf
  have hP : va_P D vwCl [(q, .inr (1, [.int mc, .ref (D.2 50 0), .int 0]))] s.heap := hP
  have hl := lv_entry ([.ref q]) (n := 1) (Nat.le_of_ble_eq_true rfl)
  rw [lg_entry_eq]
  generalize (lg_sl ([.ref q]) ++ List.replicate (1 - (lg_sl ([.ref q])).length) Slot.unset).toArray = ls at hl ⊢
  have hl : lv_has ls 1 [(0, .ref q)] := hl
  skip
  refine lv_aload_n hx hb dJx4a65c_grow_d5877_0 rfl (lv_at hl 0 rfl) ?_
  refine lv_aload_n hx hb dJx4a65c_grow_d5877_1 rfl (lv_at hl 0 rfl) ?_
  refine va_get (D := D) (ci := 1) (v := .int 0) (C := RJx4a65c) (T := TJx4a65c) (N := 3) hx hb hts zin_Jx4a65c hown hK hP 0 rfl rfl 2 (by decide) (hts _ zw_1068) (fun _ h9 => h9) rfl dJx4a65c_grow_d5877_2 ?_
  refine lv_iconst (v := 1) hx hb dJx4a65c_grow_d5877_5 (by decide) ?_
  refine lv_iadd hx hb dJx4a65c_grow_d5877_6 ?_
  refine lv_topi (fun x_1 ex_1 => ?_)
  obtain rfl : x_1 = 1 := ex_1.trans (by first | rfl | decide | simp)
  obtain ⟨hb_4, hc_4⟩ := z_call (wc := [(q, .inr (1, [.int mc, .ref (D.2 50 0), .int 0]))]) (tc := []) ([.ref q, .int 1]) hP hK hD hS hA hE hX [0] rfl rfl [] rfl
  have hF_4 := va_free (wc := [(q, .inr (1, [.int mc, .ref (D.2 50 0), .int 0]))]) hD hS hA [0] rfl
  refine va_callr (va_runV (As := [.int 1]) (rest := []) ⟨hx, hb, hml, hown, hts⟩ (c_al_grow2 l D q mc _ ) (z_cV 1 hE zw_1176 zw_1178 zw_61 zw_99 zw_1179 rfl rfl rfl (by decide +kernel) ⟨(Nat.le_of_ble_eq_true rfl), (Nat.le_of_ble_eq_true rfl)⟩) ⟨hb_4, va_recv hK hP (ci := 1) (q0 := 0) rfl rfl, hc_4⟩ rfl rfl hl.1 rfl (lv_room (Nat.le_of_ble_eq_true rfl)) dJx4a65c_grow_d5877_7 ⟨(Nat.le_of_ble_eq_true rfl), (Nat.le_of_ble_eq_true rfl)⟩) hS (fun q _ h => hF_4 q h) hF_4 (fun u_4 gr_2 t_4 H1 locs ht_4 hvm_4 hw_4 hB_4 hz_4 hk_4 hS1 => ?_)
  obtain ⟨cg_3, hB_4⟩ := hB_4
  obtain ⟨hP, hK, hD⟩ := z_back (wc := [(q, .inr (1, [.int mc, .ref (D.2 50 0), .int 0]))]) (wr := []) (w1 := [(q, .inr (1, [.int mc, .ref gr_2, .int 0])), (gr_2, .inl (cg_3, 10, .inr (.inr (.inr (.inr (fun _ => none))))))]) (tr := []) hP hK hD [0] [] rfl rfl rfl (by decide) ht_4 hvm_4 hk_4 hF_4 [] rfl hB_4
  have hS := hS1
  have hP : va_P D vwCl [(q, .inr (1, [.int mc, .ref gr_2, .int 0])), (gr_2, .inl (cg_3, 10, .inr (.inr (.inr (.inr (fun _ => none))))))] H1 := hP
  have hD : va_D A [(q, .inr (1, [.int mc, .ref gr_2, .int 0])), (gr_2, .inl (cg_3, 10, .inr (.inr (.inr (.inr (fun _ => none))))))] := hD
  have hK : va_K D vwCl [(cg_3, .object "java/lang/Object")] s := hK
  clear hS1
  exact W.aret (v := .ref gr_2) hx hb hr (Or.inr ⟨_, rfl⟩) (Or.inr ⟨_, rfl⟩) (fun t ht hW => ⟨⟨(), gr_2, rfl, trivial, ⟨cg_3, z_end hP hK hD [0, 1] rfl rfl [0] rfl ht hW.alike⟩⟩, hS.F ht⟩) hS.2.2 dJx4a65c_grow_d5877_10
theorem dJx4a65c_add_72be8_0 : decode cJx4a65c_add_72be8 0 = .ok (.iload_n 3, 1) := by decide +kernel
theorem dJx4a65c_add_72be8_1 : decode cJx4a65c_add_72be8 1 = .ok (.aload_n 2, 1) := by decide +kernel
theorem dJx4a65c_add_72be8_2 : decode cJx4a65c_add_72be8 2 = .ok (.arraylength, 1) := by decide +kernel
theorem dJx4a65c_add_72be8_3 : decode cJx4a65c_add_72be8 3 = .ok (.if_icmp .ne 8, 3) := by decide +kernel
theorem dJx4a65c_add_72be8_6 : decode cJx4a65c_add_72be8 6 = .ok (.aload_n 0, 1) := by decide +kernel
theorem dJx4a65c_add_72be8_7 : decode cJx4a65c_add_72be8 7 = .ok (.invokevirtual 129, 3) := by decide +kernel
theorem zw_1172 : Cond.methodLink RJx4a65c 129 yJx4a65c_grow_d5877 ∈ z_Ts := z_m 1172 (by decide +kernel) (by decide +kernel)
theorem zw_1174 : Cond.instanceMethod yJx4a65c_grow_d5877 ∈ z_Ts := z_m 1174 (by decide +kernel) (by decide +kernel)
theorem zw_60 : Cond.selects RJx4a65c yJx4a65c_grow_d5877 yJx4a65c_grow_d5877 ∈ z_Ts := z_m 60 (by decide +kernel) (by decide +kernel)
theorem zw_1175 : Cond.code yJx4a65c_grow_d5877 cJx4a65c_grow_d5877 1 (some (.array (.object "java/lang/Object"))) ∈ z_Ts := z_m 1175 (by decide +kernel) (by decide +kernel)
theorem dJx4a65c_add_72be8_10 : decode cJx4a65c_add_72be8 10 = .ok (.astore_n 2, 1) := by decide +kernel
theorem dJx4a65c_add_72be8_11 : decode cJx4a65c_add_72be8 11 = .ok (.aload_n 2, 1) := by decide +kernel
theorem dJx4a65c_add_72be8_12 : decode cJx4a65c_add_72be8 12 = .ok (.iload_n 3, 1) := by decide +kernel
theorem dJx4a65c_add_72be8_13 : decode cJx4a65c_add_72be8 13 = .ok (.aload_n 1, 1) := by decide +kernel
theorem dJx4a65c_add_72be8_14 : decode cJx4a65c_add_72be8 14 = .ok (.aastore, 1) := by decide +kernel
theorem zw_1761 : Cond.castable RX7 "java/lang/Object" ∈ z_Ts := z_m 1761 (by decide +kernel) (by decide +kernel)
theorem dJx4a65c_add_72be8_15 : decode cJx4a65c_add_72be8 15 = .ok (.aload_n 0, 1) := by decide +kernel
theorem dJx4a65c_add_72be8_16 : decode cJx4a65c_add_72be8 16 = .ok (.iload_n 3, 1) := by decide +kernel
theorem dJx4a65c_add_72be8_17 : decode cJx4a65c_add_72be8 17 = .ok (.iconst 1, 1) := by decide +kernel
theorem dJx4a65c_add_72be8_18 : decode cJx4a65c_add_72be8 18 = .ok (.iadd, 1) := by decide +kernel
theorem dJx4a65c_add_72be8_19 : decode cJx4a65c_add_72be8 19 = .ok (.putfield 48, 3) := by decide +kernel
theorem dJx4a65c_add_72be8_22 : decode cJx4a65c_add_72be8 22 = .ok (.return_, 1) := by decide +kernel
set_option maxHeartbeats 4000000 in
set_option maxRecDepth 100000 in
theorem c_al_add3_9 (l : Launch) (D : va_G) (q : Nat) (mc : Int32) (o0 : Nat) (fs : List Value) (sz : Nat)  : Met l yJx4a65c_add_72be8 [Cond.code yJx4a65c_add_72be8 cJx4a65c_add_72be8 4 none] ({ frames := 3, cells := 1, slots := 10, locals := 120 }) (z_Pc D [.ref q, .ref o0, .ref (D.2 50 0), .int 0] [(q, .inr (1, [.int mc, .ref (D.2 50 0), .int 0])), (o0, .inr (9, fs))] [] sz) (va_Qv (fun _ : Unit => True) (fun _ t => ∃ qn : Nat, z_W D [(q, .inr (1, [.int mc, .ref qn, .int 1]))] [] (va_A [(q, .inr (1, [.int mc, .ref (D.2 50 0), .int 0])), (o0, .inr (9, fs))] sz) t) (va_A [(q, .inr (1, [.int mc, .ref (D.2 50 0), .int 0])), (o0, .inr (9, fs))] sz)) 1 10 (va_A [(q, .inr (1, [.int mc, .ref (D.2 50 0), .int 0])), (o0, .inr (9, fs))] sz) := by
  refine Met.ofW (cc := cJx4a65c_add_72be8) (maxL := 4) (ret := none) (by decide +kernel) rfl ?_
  intro p e s m args below meth c s₁ B hml hv
  obtain ⟨rfl, hsz, hP, hK, hD0, hE, hX0⟩ := hv
  have hx := B.exec
  have hb := B.bytes
  have hr := B.returns
  have hts := z_E.ts (args := [.ref q, .ref o0, .ref (D.2 50 0), .int 0].toArray) hE
  have hown : s.vm.findClass RJx4a65c = some m.cls := findClass_of_methodNamed B.named
  have hlocks := B.notSynchronized
  subst hsz
  have hD := hD0.self (sz := s.heap.size)
  generalize hAe : va_A [(q, .inr (1, [.int mc, .ref (D.2 50 0), .int 0])), (o0, .inr (9, fs))] s.heap.size = A at hD hX0 ⊢
  have hX : z_X D A s s.heap := hX0
  have hA : ∀ q : Nat, s.heap.size ≤ q → A q := fun q h => by rw [← hAe]; exact Or.inr h
  have hS : va_S A s.heap s.heap [] := va_S.rf
  have hP : va_P D vwCl [(q, .inr (1, [.int mc, .ref (D.2 50 0), .int 0])), (o0, .inr (9, fs))] s.heap := hP
  have hl := lv_entry ([.ref q, .ref o0, .ref (D.2 50 0), .int 0]) (n := 4) (Nat.le_of_ble_eq_true rfl)
  rw [lg_entry_eq]
  generalize (lg_sl ([.ref q, .ref o0, .ref (D.2 50 0), .int 0]) ++ List.replicate (4 - (lg_sl ([.ref q, .ref o0, .ref (D.2 50 0), .int 0])).length) Slot.unset).toArray = ls at hl ⊢
  have hl : lv_has ls 4 [(0, .ref q), (1, .ref o0), (2, .ref (D.2 50 0)), (3, .int 0)] := hl
  skip
  refine lv_iload_n hx hb dJx4a65c_add_72be8_0 rfl (lv_at hl 3 rfl) ?_
  refine lv_aload_n hx hb dJx4a65c_add_72be8_1 rfl (lv_at hl 2 rfl) ?_
  refine va_tlen (v := 0) hx hb hX.2.2.1.2 hS (by decide) dJx4a65c_add_72be8_2 ?_
  refine lv_icmp_ne (tgt := 11) hx hb dJx4a65c_add_72be8_3 (by decide) (fun c_1 => absurd (by decide) c_1) (fun c_1 => ?_)
  refine lv_aload_n hx hb dJx4a65c_add_72be8_6 rfl (lv_at hl 0 rfl) ?_
  obtain ⟨hb_4, hc_4⟩ := z_call (wc := [(q, .inr (1, [.int mc, .ref (D.2 50 0), .int 0]))]) (tc := []) ([.ref q]) hP hK hD hS hA hE hX [0] rfl rfl [] rfl
  have hF_4 := va_free (wc := [(q, .inr (1, [.int mc, .ref (D.2 50 0), .int 0]))]) hD hS hA [0] rfl
  refine va_callr (va_runV (As := []) (rest := []) ⟨hx, hb, hml, hown, hts⟩ (c_al_grow1 l D q mc _ ) (z_cV 0 hE zw_1172 zw_1174 zw_60 zw_99 zw_1175 rfl rfl rfl (by decide +kernel) ⟨(Nat.le_of_ble_eq_true rfl), (Nat.le_of_ble_eq_true rfl)⟩) ⟨hb_4, va_recv hK hP (ci := 1) (q0 := 0) rfl rfl, hc_4⟩ rfl rfl hl.1 rfl (lv_room (Nat.le_of_ble_eq_true rfl)) dJx4a65c_add_72be8_7 ⟨(Nat.le_of_ble_eq_true rfl), (Nat.le_of_ble_eq_true rfl)⟩) hS (fun q _ h => hF_4 q h) hF_4 (fun u_4 gr_2 t_4 H1 locs ht_4 hvm_4 hw_4 hB_4 hz_4 hk_4 hS1 => ?_)
  obtain ⟨cg_3, hB_4⟩ := hB_4
  obtain ⟨hP, hK, hD⟩ := z_back (wc := [(q, .inr (1, [.int mc, .ref (D.2 50 0), .int 0]))]) (wr := [(o0, .inr (9, fs))]) (w1 := [(q, .inr (1, [.int mc, .ref gr_2, .int 0])), (gr_2, .inl (cg_3, 10, .inr (.inr (.inr (.inr (fun _ => none))))))]) (tr := []) hP hK hD [0] [1] rfl rfl rfl (by decide) ht_4 hvm_4 hk_4 hF_4 [] rfl hB_4
  have hS := hS1
  have hP : va_P D vwCl [(o0, .inr (9, fs)), (q, .inr (1, [.int mc, .ref gr_2, .int 0])), (gr_2, .inl (cg_3, 10, .inr (.inr (.inr (.inr (fun _ => none))))))] H1 := hP
  have hD : va_D A [(o0, .inr (9, fs)), (q, .inr (1, [.int mc, .ref gr_2, .int 0])), (gr_2, .inl (cg_3, 10, .inr (.inr (.inr (.inr (fun _ => none))))))] := hD
  have hK : va_K D vwCl [(cg_3, .object "java/lang/Object")] s := hK
  clear hS1
  refine lv_astore_n (lv' := [(2, .ref gr_2), (0, .ref q), (1, .ref o0), (3, .int 0)]) hx hb dJx4a65c_add_72be8_10 rfl hl (by decide) rfl (fun ls hl => ?_)
  refine lv_aload_n hx hb dJx4a65c_add_72be8_11 rfl (lv_at hl 0 rfl) ?_
  refine lv_iload_n hx hb dJx4a65c_add_72be8_12 rfl (lv_at hl 3 rfl) ?_
  refine lv_aload_n hx hb dJx4a65c_add_72be8_13 rfl (lv_at hl 2 rfl) ?_
  refine va_astqO (D := D) (i := 0) hx hb hK hP hD hS 2 0 0 9 rfl rfl (hE _ zw_1761) rfl rfl (by unfold vp_in; decide) dJx4a65c_add_72be8_14 (fun H locs hP hD hS => ?_)
  have hP : va_P D vwCl [(o0, .inr (9, fs)), (q, .inr (1, [.int mc, .ref gr_2, .int 0])), (gr_2, .inl (cg_3, 10, .inr (.inr (.inr (.inr (va_up (fun _ => none) 0 (some o0)))))))] H := hP
  have hD : va_D A [(o0, .inr (9, fs)), (q, .inr (1, [.int mc, .ref gr_2, .int 0])), (gr_2, .inl (cg_3, 10, .inr (.inr (.inr (.inr (va_up (fun _ => none) 0 (some o0)))))))] := hD
  refine lv_aload_n hx hb dJx4a65c_add_72be8_15 rfl (lv_at hl 1 rfl) ?_
  refine lv_iload_n hx hb dJx4a65c_add_72be8_16 rfl (lv_at hl 3 rfl) ?_
  refine lv_iconst (v := 1) hx hb dJx4a65c_add_72be8_17 (by decide) ?_
  refine lv_iadd hx hb dJx4a65c_add_72be8_18 ?_
  refine lv_topi (fun x_5 ex_5 => ?_)
  obtain rfl : x_5 = 1 := ex_5.trans (by first | rfl | decide | simp)
  refine va_put (D := D) (ci := 1) (v := .int 1) (ty := .int) (C := RJx4a65c) (T := TJx4a65c) (N := 3) hx hb hts zin_Jx4a65c tyJx4a65c tyJx4a65c_ok nmJx4a65c hown hK hP hD hS 1 rfl rfl 2 (by decide) (hts _ zw_1068) (fun _ h9 => h9) rfl (by decide +kernel) rfl rfl (Nat.le_of_ble_eq_true rfl) dJx4a65c_add_72be8_19 (fun H locs hP hD hS => ?_)
  have hP : va_P D vwCl [(o0, .inr (9, fs)), (q, .inr (1, [.int mc, .ref gr_2, .int 1])), (gr_2, .inl (cg_3, 10, .inr (.inr (.inr (.inr (va_up (fun _ => none) 0 (some o0)))))))] H := hP
  have hD : va_D A [(o0, .inr (9, fs)), (q, .inr (1, [.int mc, .ref gr_2, .int 1])), (gr_2, .inl (cg_3, 10, .inr (.inr (.inr (.inr (va_up (fun _ => none) 0 (some o0)))))))] := hD
  exact W.vret hx hb hr (fun t ht hW => ⟨⟨(), rfl, trivial, ⟨gr_2, z_end hP hK hD [1] rfl rfl [] rfl ht hW.alike⟩⟩, hS.F ht⟩) hS.2.2 dJx4a65c_add_72be8_22
theorem dJx4a65c_add_9ea2d_0 : decode cJx4a65c_add_9ea2d 0 = .ok (.aload_n 0, 1) := by decide +kernel
theorem dJx4a65c_add_9ea2d_1 : decode cJx4a65c_add_9ea2d 1 = .ok (.dup, 1) := by decide +kernel
theorem dJx4a65c_add_9ea2d_2 : decode cJx4a65c_add_9ea2d 2 = .ok (.getfield 63, 3) := by decide +kernel
theorem zw_1072 : Cond.fieldLink RJx4a65c 63 "java/util/ArrayList" "modCount" "I" ∈ z_Ts := z_m 1072 (by decide +kernel) (by decide +kernel)
theorem dJx4a65c_add_9ea2d_5 : decode cJx4a65c_add_9ea2d 5 = .ok (.iconst 1, 1) := by decide +kernel
theorem dJx4a65c_add_9ea2d_6 : decode cJx4a65c_add_9ea2d 6 = .ok (.iadd, 1) := by decide +kernel
theorem dJx4a65c_add_9ea2d_7 : decode cJx4a65c_add_9ea2d 7 = .ok (.putfield 63, 3) := by decide +kernel
theorem dJx4a65c_add_9ea2d_10 : decode cJx4a65c_add_9ea2d 10 = .ok (.aload_n 0, 1) := by decide +kernel
theorem dJx4a65c_add_9ea2d_11 : decode cJx4a65c_add_9ea2d 11 = .ok (.aload_n 1, 1) := by decide +kernel
theorem dJx4a65c_add_9ea2d_12 : decode cJx4a65c_add_9ea2d 12 = .ok (.aload_n 0, 1) := by decide +kernel
theorem dJx4a65c_add_9ea2d_13 : decode cJx4a65c_add_9ea2d 13 = .ok (.getfield 9, 3) := by decide +kernel
theorem dJx4a65c_add_9ea2d_16 : decode cJx4a65c_add_9ea2d 16 = .ok (.aload_n 0, 1) := by decide +kernel
theorem dJx4a65c_add_9ea2d_17 : decode cJx4a65c_add_9ea2d 17 = .ok (.getfield 48, 3) := by decide +kernel
theorem dJx4a65c_add_9ea2d_20 : decode cJx4a65c_add_9ea2d 20 = .ok (.invokevirtual 131, 3) := by decide +kernel
theorem zw_1168 : Cond.methodLink RJx4a65c 131 yJx4a65c_add_72be8 ∈ z_Ts := z_m 1168 (by decide +kernel) (by decide +kernel)
theorem zw_1170 : Cond.instanceMethod yJx4a65c_add_72be8 ∈ z_Ts := z_m 1170 (by decide +kernel) (by decide +kernel)
theorem zw_59 : Cond.selects RJx4a65c yJx4a65c_add_72be8 yJx4a65c_add_72be8 ∈ z_Ts := z_m 59 (by decide +kernel) (by decide +kernel)
theorem zw_1171 : Cond.code yJx4a65c_add_72be8 cJx4a65c_add_72be8 4 none ∈ z_Ts := z_m 1171 (by decide +kernel) (by decide +kernel)
theorem dJx4a65c_add_9ea2d_23 : decode cJx4a65c_add_9ea2d 23 = .ok (.iconst 1, 1) := by decide +kernel
theorem dJx4a65c_add_9ea2d_24 : decode cJx4a65c_add_9ea2d 24 = .ok (.ireturn, 1) := by decide +kernel
set_option maxHeartbeats 4000000 in
set_option maxRecDepth 100000 in
theorem c_al_add1_9 (l : Launch) (D : va_G) (q : Nat) (o0 : Nat) (fs : List Value) (sz : Nat)  : Met l yJx4a65c_add_9ea2d [Cond.code yJx4a65c_add_9ea2d cJx4a65c_add_9ea2d 2 (some .boolean)] ({ frames := 4, cells := 1, slots := 10, locals := 160 }) (z_Pc D [.ref q, .ref o0] [(q, .inr (1, [.int 0, .ref (D.2 50 0), .int 0])), (o0, .inr (9, fs))] [] sz) (va_Qi (fun (r : Int32) (_ : Unit) => r = 1) (fun _ t => ∃ qn : Nat, z_W D [(q, .inr (1, [.int 1, .ref qn, .int 1]))] [] (va_A [(q, .inr (1, [.int 0, .ref (D.2 50 0), .int 0])), (o0, .inr (9, fs))] sz) t) (va_A [(q, .inr (1, [.int 0, .ref (D.2 50 0), .int 0])), (o0, .inr (9, fs))] sz)) 1 10 (va_A [(q, .inr (1, [.int 0, .ref (D.2 50 0), .int 0])), (o0, .inr (9, fs))] sz) := by
  refine Met.ofW (cc := cJx4a65c_add_9ea2d) (maxL := 2) (ret := (some .boolean)) (by decide +kernel) rfl ?_
  intro p e s m args below meth c s₁ B hml hv
  obtain ⟨rfl, hsz, hP, hK, hD0, hE, hX0⟩ := hv
  have hx := B.exec
  have hb := B.bytes
  have hr := B.returns
  have hts := z_E.ts (args := [.ref q, .ref o0].toArray) hE
  have hown : s.vm.findClass RJx4a65c = some m.cls := findClass_of_methodNamed B.named
  have hlocks := B.notSynchronized
  subst hsz
  have hD := hD0.self (sz := s.heap.size)
  generalize hAe : va_A [(q, .inr (1, [.int 0, .ref (D.2 50 0), .int 0])), (o0, .inr (9, fs))] s.heap.size = A at hD hX0 ⊢
  have hX : z_X D A s s.heap := hX0
  have hA : ∀ q : Nat, s.heap.size ≤ q → A q := fun q h => by rw [← hAe]; exact Or.inr h
  have hS : va_S A s.heap s.heap [] := va_S.rf
  have hP : va_P D vwCl [(q, .inr (1, [.int 0, .ref (D.2 50 0), .int 0])), (o0, .inr (9, fs))] s.heap := hP
  have hl := lv_entry ([.ref q, .ref o0]) (n := 2) (Nat.le_of_ble_eq_true rfl)
  rw [lg_entry_eq]
  generalize (lg_sl ([.ref q, .ref o0]) ++ List.replicate (2 - (lg_sl ([.ref q, .ref o0])).length) Slot.unset).toArray = ls at hl ⊢
  have hl : lv_has ls 2 [(0, .ref q), (1, .ref o0)] := hl
  skip
  refine lv_aload_n hx hb dJx4a65c_add_9ea2d_0 rfl (lv_at hl 0 rfl) ?_
  refine lv_dup hx hb dJx4a65c_add_9ea2d_1 rfl ?_
  refine va_get (D := D) (ci := 1) (v := .int 0) (C := RJx4a65c) (T := TJx4a65c) (N := 3) hx hb hts zin_Jx4a65c hown hK hP 0 rfl rfl 0 (by decide) (hts _ zw_1072) (u_same (hts _ zw_1071)) rfl dJx4a65c_add_9ea2d_2 ?_
  refine lv_iconst (v := 1) hx hb dJx4a65c_add_9ea2d_5 (by decide) ?_
  refine lv_iadd hx hb dJx4a65c_add_9ea2d_6 ?_
  refine lv_topi (fun x_1 ex_1 => ?_)
  obtain rfl : x_1 = 1 := ex_1.trans (by first | rfl | decide | simp)
  refine va_put (D := D) (ci := 1) (v := .int 1) (ty := .int) (C := RJx4a65c) (T := TJx4a65c) (N := 3) hx hb hts zin_Jx4a65c tyJx4a65c tyJx4a65c_ok nmJx4a65c hown hK hP hD hS 0 rfl rfl 0 (by decide) (hts _ zw_1072) (u_same (hts _ zw_1071)) rfl (by decide +kernel) rfl rfl (Nat.le_of_ble_eq_true rfl) dJx4a65c_add_9ea2d_7 (fun H locs hP hD hS => ?_)
  have hP : va_P D vwCl [(q, .inr (1, [.int 1, .ref (D.2 50 0), .int 0])), (o0, .inr (9, fs))] H := hP
  have hD : va_D A [(q, .inr (1, [.int 1, .ref (D.2 50 0), .int 0])), (o0, .inr (9, fs))] := hD
  refine lv_aload_n hx hb dJx4a65c_add_9ea2d_10 rfl (lv_at hl 0 rfl) ?_
  refine lv_aload_n hx hb dJx4a65c_add_9ea2d_11 rfl (lv_at hl 1 rfl) ?_
  refine lv_aload_n hx hb dJx4a65c_add_9ea2d_12 rfl (lv_at hl 0 rfl) ?_
  refine va_get (D := D) (ci := 1) (v := .ref (D.2 50 0)) (C := RJx4a65c) (T := TJx4a65c) (N := 3) hx hb hts zin_Jx4a65c hown hK hP 0 rfl rfl 1 (by decide) (hts _ zw_1065) (fun _ h9 => h9) rfl dJx4a65c_add_9ea2d_13 ?_
  refine lv_aload_n hx hb dJx4a65c_add_9ea2d_16 rfl (lv_at hl 0 rfl) ?_
  refine va_get (D := D) (ci := 1) (v := .int 0) (C := RJx4a65c) (T := TJx4a65c) (N := 3) hx hb hts zin_Jx4a65c hown hK hP 0 rfl rfl 2 (by decide) (hts _ zw_1068) (fun _ h9 => h9) rfl dJx4a65c_add_9ea2d_17 ?_
  obtain ⟨hb_3, hc_3⟩ := z_call (wc := [(q, .inr (1, [.int 1, .ref (D.2 50 0), .int 0])), (o0, .inr (9, fs))]) (tc := []) ([.ref q, .ref o0, .ref (D.2 50 0), .int 0]) hP hK hD hS hA hE hX [0, 1] rfl rfl [] rfl
  have hF_3 := va_free (wc := [(q, .inr (1, [.int 1, .ref (D.2 50 0), .int 0])), (o0, .inr (9, fs))]) hD hS hA [0, 1] rfl
  refine va_callv (va_runV (As := [.ref o0, .ref (D.2 50 0), .int 0]) (rest := []) ⟨hx, hb, hml, hown, hts⟩ (c_al_add3_9 l D q 1 o0 fs _ ) (z_cV 3 hE zw_1168 zw_1170 zw_59 zw_99 zw_1171 rfl rfl rfl (by decide +kernel) ⟨(Nat.le_of_ble_eq_true rfl), (Nat.le_of_ble_eq_true rfl)⟩) ⟨hb_3, va_recv hK hP (ci := 1) (q0 := 0) rfl rfl, hc_3⟩ rfl rfl hl.1 rfl (lv_room (Nat.le_of_ble_eq_true rfl)) dJx4a65c_add_9ea2d_20 ⟨(Nat.le_of_ble_eq_true rfl), (Nat.le_of_ble_eq_true rfl)⟩) hS (fun q _ h => hF_3 q h) hF_3 (fun u_3 t_3 H1 locs ht_3 hvm_3 hw_3 hB_3 hz_3 hk_3 hS1 => ?_)
  obtain ⟨qn_2, hB_3⟩ := hB_3
  obtain ⟨hP, hK, hD⟩ := z_back (wc := [(q, .inr (1, [.int 1, .ref (D.2 50 0), .int 0])), (o0, .inr (9, fs))]) (wr := []) (w1 := [(q, .inr (1, [.int 1, .ref qn_2, .int 1]))]) (tr := []) hP hK hD [0, 1] [] rfl rfl rfl (by decide) ht_3 hvm_3 hk_3 hF_3 [] rfl hB_3
  have hS := hS1
  have hP : va_P D vwCl [(q, .inr (1, [.int 1, .ref qn_2, .int 1]))] H1 := hP
  have hD : va_D A [(q, .inr (1, [.int 1, .ref qn_2, .int 1]))] := hD
  have hK : va_K D vwCl [] s := hK
  clear hS1
  refine lv_iconst (v := 1) hx hb dJx4a65c_add_9ea2d_23 (by decide) ?_
  exact W.zret (v := 1) hx hb hr (by first | rfl | decide) (fun t ht hW => ⟨⟨1, (), rfl, rfl, ⟨qn_2, z_end hP hK hD [0] rfl rfl [] rfl ht hW.alike⟩⟩, hS.F ht⟩) hS.2.2 dJx4a65c_add_9ea2d_24
theorem zw_1766 : Cond.castable RX5 "java/lang/Object" ∈ z_Ts := z_m 1766 (by decide +kernel) (by decide +kernel)
set_option maxHeartbeats 4000000 in
set_option maxRecDepth 100000 in
theorem c_al_add3_7 (l : Launch) (D : va_G) (q : Nat) (mc : Int32) (o0 : Nat) (fs : List Value) (sz : Nat)  : Met l yJx4a65c_add_72be8 [Cond.code yJx4a65c_add_72be8 cJx4a65c_add_72be8 4 none] ({ frames := 3, cells := 1, slots := 10, locals := 120 }) (z_Pc D [.ref q, .ref o0, .ref (D.2 50 0), .int 0] [(q, .inr (1, [.int mc, .ref (D.2 50 0), .int 0])), (o0, .inr (7, fs))] [] sz) (va_Qv (fun _ : Unit => True) (fun _ t => ∃ qn : Nat, z_W D [(q, .inr (1, [.int mc, .ref qn, .int 1]))] [] (va_A [(q, .inr (1, [.int mc, .ref (D.2 50 0), .int 0])), (o0, .inr (7, fs))] sz) t) (va_A [(q, .inr (1, [.int mc, .ref (D.2 50 0), .int 0])), (o0, .inr (7, fs))] sz)) 1 10 (va_A [(q, .inr (1, [.int mc, .ref (D.2 50 0), .int 0])), (o0, .inr (7, fs))] sz) := by
  refine Met.ofW (cc := cJx4a65c_add_72be8) (maxL := 4) (ret := none) (by decide +kernel) rfl ?_
  intro p e s m args below meth c s₁ B hml hv
  obtain ⟨rfl, hsz, hP, hK, hD0, hE, hX0⟩ := hv
  have hx := B.exec
  have hb := B.bytes
  have hr := B.returns
  have hts := z_E.ts (args := [.ref q, .ref o0, .ref (D.2 50 0), .int 0].toArray) hE
  have hown : s.vm.findClass RJx4a65c = some m.cls := findClass_of_methodNamed B.named
  have hlocks := B.notSynchronized
  subst hsz
  have hD := hD0.self (sz := s.heap.size)
  generalize hAe : va_A [(q, .inr (1, [.int mc, .ref (D.2 50 0), .int 0])), (o0, .inr (7, fs))] s.heap.size = A at hD hX0 ⊢
  have hX : z_X D A s s.heap := hX0
  have hA : ∀ q : Nat, s.heap.size ≤ q → A q := fun q h => by rw [← hAe]; exact Or.inr h
  have hS : va_S A s.heap s.heap [] := va_S.rf
  have hP : va_P D vwCl [(q, .inr (1, [.int mc, .ref (D.2 50 0), .int 0])), (o0, .inr (7, fs))] s.heap := hP
  have hl := lv_entry ([.ref q, .ref o0, .ref (D.2 50 0), .int 0]) (n := 4) (Nat.le_of_ble_eq_true rfl)
  rw [lg_entry_eq]
  generalize (lg_sl ([.ref q, .ref o0, .ref (D.2 50 0), .int 0]) ++ List.replicate (4 - (lg_sl ([.ref q, .ref o0, .ref (D.2 50 0), .int 0])).length) Slot.unset).toArray = ls at hl ⊢
  have hl : lv_has ls 4 [(0, .ref q), (1, .ref o0), (2, .ref (D.2 50 0)), (3, .int 0)] := hl
  skip
  refine lv_iload_n hx hb dJx4a65c_add_72be8_0 rfl (lv_at hl 3 rfl) ?_
  refine lv_aload_n hx hb dJx4a65c_add_72be8_1 rfl (lv_at hl 2 rfl) ?_
  refine va_tlen (v := 0) hx hb hX.2.2.1.2 hS (by decide) dJx4a65c_add_72be8_2 ?_
  refine lv_icmp_ne (tgt := 11) hx hb dJx4a65c_add_72be8_3 (by decide) (fun c_1 => absurd (by decide) c_1) (fun c_1 => ?_)
  refine lv_aload_n hx hb dJx4a65c_add_72be8_6 rfl (lv_at hl 0 rfl) ?_
  obtain ⟨hb_4, hc_4⟩ := z_call (wc := [(q, .inr (1, [.int mc, .ref (D.2 50 0), .int 0]))]) (tc := []) ([.ref q]) hP hK hD hS hA hE hX [0] rfl rfl [] rfl
  have hF_4 := va_free (wc := [(q, .inr (1, [.int mc, .ref (D.2 50 0), .int 0]))]) hD hS hA [0] rfl
  refine va_callr (va_runV (As := []) (rest := []) ⟨hx, hb, hml, hown, hts⟩ (c_al_grow1 l D q mc _ ) (z_cV 0 hE zw_1172 zw_1174 zw_60 zw_99 zw_1175 rfl rfl rfl (by decide +kernel) ⟨(Nat.le_of_ble_eq_true rfl), (Nat.le_of_ble_eq_true rfl)⟩) ⟨hb_4, va_recv hK hP (ci := 1) (q0 := 0) rfl rfl, hc_4⟩ rfl rfl hl.1 rfl (lv_room (Nat.le_of_ble_eq_true rfl)) dJx4a65c_add_72be8_7 ⟨(Nat.le_of_ble_eq_true rfl), (Nat.le_of_ble_eq_true rfl)⟩) hS (fun q _ h => hF_4 q h) hF_4 (fun u_4 gr_2 t_4 H1 locs ht_4 hvm_4 hw_4 hB_4 hz_4 hk_4 hS1 => ?_)
  obtain ⟨cg_3, hB_4⟩ := hB_4
  obtain ⟨hP, hK, hD⟩ := z_back (wc := [(q, .inr (1, [.int mc, .ref (D.2 50 0), .int 0]))]) (wr := [(o0, .inr (7, fs))]) (w1 := [(q, .inr (1, [.int mc, .ref gr_2, .int 0])), (gr_2, .inl (cg_3, 10, .inr (.inr (.inr (.inr (fun _ => none))))))]) (tr := []) hP hK hD [0] [1] rfl rfl rfl (by decide) ht_4 hvm_4 hk_4 hF_4 [] rfl hB_4
  have hS := hS1
  have hP : va_P D vwCl [(o0, .inr (7, fs)), (q, .inr (1, [.int mc, .ref gr_2, .int 0])), (gr_2, .inl (cg_3, 10, .inr (.inr (.inr (.inr (fun _ => none))))))] H1 := hP
  have hD : va_D A [(o0, .inr (7, fs)), (q, .inr (1, [.int mc, .ref gr_2, .int 0])), (gr_2, .inl (cg_3, 10, .inr (.inr (.inr (.inr (fun _ => none))))))] := hD
  have hK : va_K D vwCl [(cg_3, .object "java/lang/Object")] s := hK
  clear hS1
  refine lv_astore_n (lv' := [(2, .ref gr_2), (0, .ref q), (1, .ref o0), (3, .int 0)]) hx hb dJx4a65c_add_72be8_10 rfl hl (by decide) rfl (fun ls hl => ?_)
  refine lv_aload_n hx hb dJx4a65c_add_72be8_11 rfl (lv_at hl 0 rfl) ?_
  refine lv_iload_n hx hb dJx4a65c_add_72be8_12 rfl (lv_at hl 3 rfl) ?_
  refine lv_aload_n hx hb dJx4a65c_add_72be8_13 rfl (lv_at hl 2 rfl) ?_
  refine va_astqO (D := D) (i := 0) hx hb hK hP hD hS 2 0 0 7 rfl rfl (hE _ zw_1766) rfl rfl (by unfold vp_in; decide) dJx4a65c_add_72be8_14 (fun H locs hP hD hS => ?_)
  have hP : va_P D vwCl [(o0, .inr (7, fs)), (q, .inr (1, [.int mc, .ref gr_2, .int 0])), (gr_2, .inl (cg_3, 10, .inr (.inr (.inr (.inr (va_up (fun _ => none) 0 (some o0)))))))] H := hP
  have hD : va_D A [(o0, .inr (7, fs)), (q, .inr (1, [.int mc, .ref gr_2, .int 0])), (gr_2, .inl (cg_3, 10, .inr (.inr (.inr (.inr (va_up (fun _ => none) 0 (some o0)))))))] := hD
  refine lv_aload_n hx hb dJx4a65c_add_72be8_15 rfl (lv_at hl 1 rfl) ?_
  refine lv_iload_n hx hb dJx4a65c_add_72be8_16 rfl (lv_at hl 3 rfl) ?_
  refine lv_iconst (v := 1) hx hb dJx4a65c_add_72be8_17 (by decide) ?_
  refine lv_iadd hx hb dJx4a65c_add_72be8_18 ?_
  refine lv_topi (fun x_5 ex_5 => ?_)
  obtain rfl : x_5 = 1 := ex_5.trans (by first | rfl | decide | simp)
  refine va_put (D := D) (ci := 1) (v := .int 1) (ty := .int) (C := RJx4a65c) (T := TJx4a65c) (N := 3) hx hb hts zin_Jx4a65c tyJx4a65c tyJx4a65c_ok nmJx4a65c hown hK hP hD hS 1 rfl rfl 2 (by decide) (hts _ zw_1068) (fun _ h9 => h9) rfl (by decide +kernel) rfl rfl (Nat.le_of_ble_eq_true rfl) dJx4a65c_add_72be8_19 (fun H locs hP hD hS => ?_)
  have hP : va_P D vwCl [(o0, .inr (7, fs)), (q, .inr (1, [.int mc, .ref gr_2, .int 1])), (gr_2, .inl (cg_3, 10, .inr (.inr (.inr (.inr (va_up (fun _ => none) 0 (some o0)))))))] H := hP
  have hD : va_D A [(o0, .inr (7, fs)), (q, .inr (1, [.int mc, .ref gr_2, .int 1])), (gr_2, .inl (cg_3, 10, .inr (.inr (.inr (.inr (va_up (fun _ => none) 0 (some o0)))))))] := hD
  exact W.vret hx hb hr (fun t ht hW => ⟨⟨(), rfl, trivial, ⟨gr_2, z_end hP hK hD [1] rfl rfl [] rfl ht hW.alike⟩⟩, hS.F ht⟩) hS.2.2 dJx4a65c_add_72be8_22
set_option maxHeartbeats 4000000 in
set_option maxRecDepth 100000 in
theorem c_al_add1_7 (l : Launch) (D : va_G) (q : Nat) (o0 : Nat) (fs : List Value) (sz : Nat)  : Met l yJx4a65c_add_9ea2d [Cond.code yJx4a65c_add_9ea2d cJx4a65c_add_9ea2d 2 (some .boolean)] ({ frames := 4, cells := 1, slots := 10, locals := 160 }) (z_Pc D [.ref q, .ref o0] [(q, .inr (1, [.int 0, .ref (D.2 50 0), .int 0])), (o0, .inr (7, fs))] [] sz) (va_Qi (fun (r : Int32) (_ : Unit) => r = 1) (fun _ t => ∃ qn : Nat, z_W D [(q, .inr (1, [.int 1, .ref qn, .int 1]))] [] (va_A [(q, .inr (1, [.int 0, .ref (D.2 50 0), .int 0])), (o0, .inr (7, fs))] sz) t) (va_A [(q, .inr (1, [.int 0, .ref (D.2 50 0), .int 0])), (o0, .inr (7, fs))] sz)) 1 10 (va_A [(q, .inr (1, [.int 0, .ref (D.2 50 0), .int 0])), (o0, .inr (7, fs))] sz) := by
  refine Met.ofW (cc := cJx4a65c_add_9ea2d) (maxL := 2) (ret := (some .boolean)) (by decide +kernel) rfl ?_
  intro p e s m args below meth c s₁ B hml hv
  obtain ⟨rfl, hsz, hP, hK, hD0, hE, hX0⟩ := hv
  have hx := B.exec
  have hb := B.bytes
  have hr := B.returns
  have hts := z_E.ts (args := [.ref q, .ref o0].toArray) hE
  have hown : s.vm.findClass RJx4a65c = some m.cls := findClass_of_methodNamed B.named
  have hlocks := B.notSynchronized
  subst hsz
  have hD := hD0.self (sz := s.heap.size)
  generalize hAe : va_A [(q, .inr (1, [.int 0, .ref (D.2 50 0), .int 0])), (o0, .inr (7, fs))] s.heap.size = A at hD hX0 ⊢
  have hX : z_X D A s s.heap := hX0
  have hA : ∀ q : Nat, s.heap.size ≤ q → A q := fun q h => by rw [← hAe]; exact Or.inr h
  have hS : va_S A s.heap s.heap [] := va_S.rf
  have hP : va_P D vwCl [(q, .inr (1, [.int 0, .ref (D.2 50 0), .int 0])), (o0, .inr (7, fs))] s.heap := hP
  have hl := lv_entry ([.ref q, .ref o0]) (n := 2) (Nat.le_of_ble_eq_true rfl)
  rw [lg_entry_eq]
  generalize (lg_sl ([.ref q, .ref o0]) ++ List.replicate (2 - (lg_sl ([.ref q, .ref o0])).length) Slot.unset).toArray = ls at hl ⊢
  have hl : lv_has ls 2 [(0, .ref q), (1, .ref o0)] := hl
  skip
  refine lv_aload_n hx hb dJx4a65c_add_9ea2d_0 rfl (lv_at hl 0 rfl) ?_
  refine lv_dup hx hb dJx4a65c_add_9ea2d_1 rfl ?_
  refine va_get (D := D) (ci := 1) (v := .int 0) (C := RJx4a65c) (T := TJx4a65c) (N := 3) hx hb hts zin_Jx4a65c hown hK hP 0 rfl rfl 0 (by decide) (hts _ zw_1072) (u_same (hts _ zw_1071)) rfl dJx4a65c_add_9ea2d_2 ?_
  refine lv_iconst (v := 1) hx hb dJx4a65c_add_9ea2d_5 (by decide) ?_
  refine lv_iadd hx hb dJx4a65c_add_9ea2d_6 ?_
  refine lv_topi (fun x_1 ex_1 => ?_)
  obtain rfl : x_1 = 1 := ex_1.trans (by first | rfl | decide | simp)
  refine va_put (D := D) (ci := 1) (v := .int 1) (ty := .int) (C := RJx4a65c) (T := TJx4a65c) (N := 3) hx hb hts zin_Jx4a65c tyJx4a65c tyJx4a65c_ok nmJx4a65c hown hK hP hD hS 0 rfl rfl 0 (by decide) (hts _ zw_1072) (u_same (hts _ zw_1071)) rfl (by decide +kernel) rfl rfl (Nat.le_of_ble_eq_true rfl) dJx4a65c_add_9ea2d_7 (fun H locs hP hD hS => ?_)
  have hP : va_P D vwCl [(q, .inr (1, [.int 1, .ref (D.2 50 0), .int 0])), (o0, .inr (7, fs))] H := hP
  have hD : va_D A [(q, .inr (1, [.int 1, .ref (D.2 50 0), .int 0])), (o0, .inr (7, fs))] := hD
  refine lv_aload_n hx hb dJx4a65c_add_9ea2d_10 rfl (lv_at hl 0 rfl) ?_
  refine lv_aload_n hx hb dJx4a65c_add_9ea2d_11 rfl (lv_at hl 1 rfl) ?_
  refine lv_aload_n hx hb dJx4a65c_add_9ea2d_12 rfl (lv_at hl 0 rfl) ?_
  refine va_get (D := D) (ci := 1) (v := .ref (D.2 50 0)) (C := RJx4a65c) (T := TJx4a65c) (N := 3) hx hb hts zin_Jx4a65c hown hK hP 0 rfl rfl 1 (by decide) (hts _ zw_1065) (fun _ h9 => h9) rfl dJx4a65c_add_9ea2d_13 ?_
  refine lv_aload_n hx hb dJx4a65c_add_9ea2d_16 rfl (lv_at hl 0 rfl) ?_
  refine va_get (D := D) (ci := 1) (v := .int 0) (C := RJx4a65c) (T := TJx4a65c) (N := 3) hx hb hts zin_Jx4a65c hown hK hP 0 rfl rfl 2 (by decide) (hts _ zw_1068) (fun _ h9 => h9) rfl dJx4a65c_add_9ea2d_17 ?_
  obtain ⟨hb_3, hc_3⟩ := z_call (wc := [(q, .inr (1, [.int 1, .ref (D.2 50 0), .int 0])), (o0, .inr (7, fs))]) (tc := []) ([.ref q, .ref o0, .ref (D.2 50 0), .int 0]) hP hK hD hS hA hE hX [0, 1] rfl rfl [] rfl
  have hF_3 := va_free (wc := [(q, .inr (1, [.int 1, .ref (D.2 50 0), .int 0])), (o0, .inr (7, fs))]) hD hS hA [0, 1] rfl
  refine va_callv (va_runV (As := [.ref o0, .ref (D.2 50 0), .int 0]) (rest := []) ⟨hx, hb, hml, hown, hts⟩ (c_al_add3_7 l D q 1 o0 fs _ ) (z_cV 3 hE zw_1168 zw_1170 zw_59 zw_99 zw_1171 rfl rfl rfl (by decide +kernel) ⟨(Nat.le_of_ble_eq_true rfl), (Nat.le_of_ble_eq_true rfl)⟩) ⟨hb_3, va_recv hK hP (ci := 1) (q0 := 0) rfl rfl, hc_3⟩ rfl rfl hl.1 rfl (lv_room (Nat.le_of_ble_eq_true rfl)) dJx4a65c_add_9ea2d_20 ⟨(Nat.le_of_ble_eq_true rfl), (Nat.le_of_ble_eq_true rfl)⟩) hS (fun q _ h => hF_3 q h) hF_3 (fun u_3 t_3 H1 locs ht_3 hvm_3 hw_3 hB_3 hz_3 hk_3 hS1 => ?_)
  obtain ⟨qn_2, hB_3⟩ := hB_3
  obtain ⟨hP, hK, hD⟩ := z_back (wc := [(q, .inr (1, [.int 1, .ref (D.2 50 0), .int 0])), (o0, .inr (7, fs))]) (wr := []) (w1 := [(q, .inr (1, [.int 1, .ref qn_2, .int 1]))]) (tr := []) hP hK hD [0, 1] [] rfl rfl rfl (by decide) ht_3 hvm_3 hk_3 hF_3 [] rfl hB_3
  have hS := hS1
  have hP : va_P D vwCl [(q, .inr (1, [.int 1, .ref qn_2, .int 1]))] H1 := hP
  have hD : va_D A [(q, .inr (1, [.int 1, .ref qn_2, .int 1]))] := hD
  have hK : va_K D vwCl [] s := hK
  clear hS1
  refine lv_iconst (v := 1) hx hb dJx4a65c_add_9ea2d_23 (by decide) ?_
  exact W.zret (v := 1) hx hb hr (by first | rfl | decide) (fun t ht hW => ⟨⟨1, (), rfl, rfl, ⟨qn_2, z_end hP hK hD [0] rfl rfl [] rfl ht hW.alike⟩⟩, hS.F ht⟩) hS.2.2 dJx4a65c_add_9ea2d_24
theorem dX7_init_0 : decode cX7_init 0 = .ok (.aload_n 0, 1) := by decide +kernel
theorem dX7_init_1 : decode cX7_init 1 = .ok (.invokespecial 3, 3) := by decide +kernel
theorem zw_1134 : Cond.methodLink RX7 3 ⟨"java/lang/Object", "<init>", "()V"⟩ ∈ z_Ts := z_m 1134 (by decide +kernel) (by decide +kernel)
theorem dX7_init_4 : decode cX7_init 4 = .ok (.aload_n 0, 1) := by decide +kernel
theorem dX7_init_5 : decode cX7_init 5 = .ok (.bipush 10, 2) := by decide +kernel
theorem dX7_init_7 : decode cX7_init 7 = .ok (.newarray .boolean, 2) := by decide +kernel
theorem dX7_init_9 : decode cX7_init 9 = .ok (.putfield 9, 3) := by decide +kernel
theorem zw_1137 : Cond.fieldLink RX7 9 "TwofrontArcadeModel$Unit" "walls" "[Z" ∈ z_Ts := z_m 1137 (by decide +kernel) (by decide +kernel)
set_option maxRecDepth 20000 in
theorem zin_X7 : ∀ w ∈ u_ws RX7 TX7 7, w ∈ z_Ts := z_ins (by decide +kernel) (by decide +kernel)
theorem dX7_init_12 : decode cX7_init 12 = .ok (.aload_n 0, 1) := by decide +kernel
theorem dX7_init_13 : decode cX7_init 13 = .ok (.bipush 10, 2) := by decide +kernel
theorem dX7_init_15 : decode cX7_init 15 = .ok (.newarray .boolean, 2) := by decide +kernel
theorem dX7_init_17 : decode cX7_init 17 = .ok (.putfield 15, 3) := by decide +kernel
theorem zw_1139 : Cond.fieldLink RX7 15 "TwofrontArcadeModel$Unit" "rests" "[Z" ∈ z_Ts := z_m 1139 (by decide +kernel) (by decide +kernel)
theorem dX7_init_20 : decode cX7_init 20 = .ok (.aload_n 0, 1) := by decide +kernel
theorem dX7_init_21 : decode cX7_init 21 = .ok (.bipush 32, 2) := by decide +kernel
theorem dX7_init_23 : decode cX7_init 23 = .ok (.putfield 18, 3) := by decide +kernel
theorem zw_1141 : Cond.fieldLink RX7 18 "TwofrontArcadeModel$Unit" "work" "C" ∈ z_Ts := z_m 1141 (by decide +kernel) (by decide +kernel)
theorem dX7_init_26 : decode cX7_init 26 = .ok (.aload_n 0, 1) := by decide +kernel
theorem dX7_init_27 : decode cX7_init 27 = .ok (.iconst (-1), 1) := by decide +kernel
theorem dX7_init_28 : decode cX7_init 28 = .ok (.putfield 22, 3) := by decide +kernel
theorem zw_1144 : Cond.fieldLink RX7 22 "TwofrontArcadeModel$Unit" "notice" "I" ∈ z_Ts := z_m 1144 (by decide +kernel) (by decide +kernel)
theorem dX7_init_31 : decode cX7_init 31 = .ok (.aload_n 0, 1) := by decide +kernel
theorem dX7_init_32 : decode cX7_init 32 = .ok (.iconst 4, 1) := by decide +kernel
theorem dX7_init_33 : decode cX7_init 33 = .ok (.newarray .int, 2) := by decide +kernel
theorem dX7_init_35 : decode cX7_init 35 = .ok (.putfield 26, 3) := by decide +kernel
theorem zw_1146 : Cond.fieldLink RX7 26 "TwofrontArcadeModel$Unit" "lost" "[I" ∈ z_Ts := z_m 1146 (by decide +kernel) (by decide +kernel)
theorem dX7_init_38 : decode cX7_init 38 = .ok (.aload_n 0, 1) := by decide +kernel
theorem dX7_init_39 : decode cX7_init 39 = .ok (.iload_n 1, 1) := by decide +kernel
theorem dX7_init_40 : decode cX7_init 40 = .ok (.putfield 30, 3) := by decide +kernel
theorem zw_1135 : Cond.fieldLink RX7 30 "TwofrontArcadeModel$Unit" "width" "I" ∈ z_Ts := z_m 1135 (by decide +kernel) (by decide +kernel)
theorem dX7_init_43 : decode cX7_init 43 = .ok (.return_, 1) := by decide +kernel
set_option maxHeartbeats 4000000 in
set_option maxRecDepth 100000 in
theorem c_X7_init (l : Launch) (D : va_G) (h0 : Nat) (a0 : Int32) (sz : Nat)  : Met l yX7_init [Cond.code yX7_init cX7_init 2 none] ({ frames := 1, cells := 3, slots := 24, locals := 40 }) (z_Pc D [.ref h0, .int a0] [(h0, .inr (9, [.int 0, .null, .null, .int 0, .int 0, .int 0, .null]))] [] sz) (va_Qv (fun _ : Unit => True) (fun _ t => ∃ qw : Nat, ∃ qr : Nat, ∃ ql : Nat, z_W D [(h0, .inr (9, [.int a0, .ref qw, .ref qr, .int 32, .int 0, .int (-1), .ref ql]))] [] (va_A [(h0, .inr (9, [.int 0, .null, .null, .int 0, .int 0, .int 0, .null]))] sz) t) (va_A [(h0, .inr (9, [.int 0, .null, .null, .int 0, .int 0, .int 0, .null]))] sz)) 3 24 (va_A [(h0, .inr (9, [.int 0, .null, .null, .int 0, .int 0, .int 0, .null]))] sz) := by
  refine Met.ofW (cc := cX7_init) (maxL := 2) (ret := none) (by decide +kernel) rfl ?_
  intro p e s m args below meth c s₁ B hml hv
  obtain ⟨rfl, hsz, hP, hK, hD0, hE, hX0⟩ := hv
  have hx := B.exec
  have hb := B.bytes
  have hr := B.returns
  have hts := z_E.ts (args := [.ref h0, .int a0].toArray) hE
  have hown : s.vm.findClass RX7 = some m.cls := findClass_of_methodNamed B.named
  have hlocks := B.notSynchronized
  have hin : meth.name = "<init>" := (name_of_methodNamed B.named B.method).1
  subst hsz
  have hD := hD0.self (sz := s.heap.size)
  generalize hAe : va_A [(h0, .inr (9, [.int 0, .null, .null, .int 0, .int 0, .int 0, .null]))] s.heap.size = A at hD hX0 ⊢
  have hX : z_X D A s s.heap := hX0
  have hA : ∀ q : Nat, s.heap.size ≤ q → A q := fun q h => by rw [← hAe]; exact Or.inr h
  have hS : va_S A s.heap s.heap [] := va_S.rf
  have hP : va_P D vwCl [(h0, .inr (9, [.int 0, .null, .null, .int 0, .int 0, .int 0, .null]))] s.heap := hP
  have hl := lv_entry ([.ref h0, .int a0]) (n := 2) (Nat.le_of_ble_eq_true rfl)
  rw [lg_entry_eq]
  generalize (lg_sl ([.ref h0, .int a0]) ++ List.replicate (2 - (lg_sl ([.ref h0, .int a0])).length) Slot.unset).toArray = ls at hl ⊢
  have hl : lv_has ls 2 [(0, .ref h0), (1, .int a0)] := hl
  skip
  refine lv_aload_n hx hb dX7_init_0 rfl (lv_at hl 0 rfl) ?_
  refine W.objInit hx hb hown (hts _ zw_1134) (hts _ zw_129) (hts _ zw_130) rfl (by rw [hml]; exact hl.1) rfl dX7_init_1 (Nat.le_of_ble_eq_true rfl) (Nat.le_of_ble_eq_true rfl) ?_
  refine W.eq (g2 := F0 m 4 ls []) rfl ?_
  refine lv_aload_n hx hb dX7_init_4 rfl (lv_at hl 0 rfl) ?_
  refine lv_bipush (v := 10) hx hb dX7_init_5 (by decide) ?_
  refine va_newa (atype := .boolean) (ty := .boolean) (N' := 10) (a0 := (10, .inl (fun _ => 0))) hx hb (hts _ zw_1163) rfl hK hP hD hS hA (fun cA => rfl) (by decide) (by decide) (by decide) (Nat.le_of_ble_eq_true rfl) (Nat.le_of_ble_eq_true rfl) dX7_init_7 (fun q_1 cA_2 H hK hP hD hS => ?_)
  have hP : va_P D vwCl [(h0, .inr (9, [.int 0, .null, .null, .int 0, .int 0, .int 0, .null])), (q_1, .inl (cA_2, 10, .inl (fun _ => 0)))] H := hP
  have hD : va_D A [(h0, .inr (9, [.int 0, .null, .null, .int 0, .int 0, .int 0, .null])), (q_1, .inl (cA_2, 10, .inl (fun _ => 0)))] := hD
  have hK : va_K D vwCl [(cA_2, .boolean)] s := hK
  refine va_putF (D := D) (ci := 9) (v := .ref q_1) (ty := .array .boolean) (C := RX7) (T := TX7) (N := 7) hx hb hts zin_X7 tyX7 tyX7_ok nmX7 hown hK hP hD hS 0 rfl rfl 1 (by decide) (hts _ zw_1137) (fun _ h9 => h9) rfl hin rfl (by decide +kernel) rfl rfl (Nat.le_of_ble_eq_true rfl) dX7_init_9 (fun H locs hP hD hS => ?_)
  have hP : va_P D vwCl [(h0, .inr (9, [.int 0, .ref q_1, .null, .int 0, .int 0, .int 0, .null])), (q_1, .inl (cA_2, 10, .inl (fun _ => 0)))] H := hP
  have hD : va_D A [(h0, .inr (9, [.int 0, .ref q_1, .null, .int 0, .int 0, .int 0, .null])), (q_1, .inl (cA_2, 10, .inl (fun _ => 0)))] := hD
  refine lv_aload_n hx hb dX7_init_12 rfl (lv_at hl 0 rfl) ?_
  refine lv_bipush (v := 10) hx hb dX7_init_13 (by decide) ?_
  refine va_newa (atype := .boolean) (ty := .boolean) (N' := 10) (a0 := (10, .inl (fun _ => 0))) hx hb (hts _ zw_1163) rfl hK hP hD hS hA (fun cA => rfl) (by decide) (by decide) (by decide) (Nat.le_of_ble_eq_true rfl) (Nat.le_of_ble_eq_true rfl) dX7_init_15 (fun q_3 cA_4 H hK hP hD hS => ?_)
  have hP : va_P D vwCl [(h0, .inr (9, [.int 0, .ref q_1, .null, .int 0, .int 0, .int 0, .null])), (q_1, .inl (cA_2, 10, .inl (fun _ => 0))), (q_3, .inl (cA_4, 10, .inl (fun _ => 0)))] H := hP
  have hD : va_D A [(h0, .inr (9, [.int 0, .ref q_1, .null, .int 0, .int 0, .int 0, .null])), (q_1, .inl (cA_2, 10, .inl (fun _ => 0))), (q_3, .inl (cA_4, 10, .inl (fun _ => 0)))] := hD
  have hK : va_K D vwCl [(cA_2, .boolean), (cA_4, .boolean)] s := hK
  refine va_putF (D := D) (ci := 9) (v := .ref q_3) (ty := .array .boolean) (C := RX7) (T := TX7) (N := 7) hx hb hts zin_X7 tyX7 tyX7_ok nmX7 hown hK hP hD hS 0 rfl rfl 2 (by decide) (hts _ zw_1139) (fun _ h9 => h9) rfl hin rfl (by decide +kernel) rfl rfl (Nat.le_of_ble_eq_true rfl) dX7_init_17 (fun H locs hP hD hS => ?_)
  have hP : va_P D vwCl [(h0, .inr (9, [.int 0, .ref q_1, .ref q_3, .int 0, .int 0, .int 0, .null])), (q_1, .inl (cA_2, 10, .inl (fun _ => 0))), (q_3, .inl (cA_4, 10, .inl (fun _ => 0)))] H := hP
  have hD : va_D A [(h0, .inr (9, [.int 0, .ref q_1, .ref q_3, .int 0, .int 0, .int 0, .null])), (q_1, .inl (cA_2, 10, .inl (fun _ => 0))), (q_3, .inl (cA_4, 10, .inl (fun _ => 0)))] := hD
  refine lv_aload_n hx hb dX7_init_20 rfl (lv_at hl 0 rfl) ?_
  refine lv_bipush (v := 32) hx hb dX7_init_21 (by decide) ?_
  refine va_put (D := D) (ci := 9) (v := .int 32) (ty := .char) (C := RX7) (T := TX7) (N := 7) hx hb hts zin_X7 tyX7 tyX7_ok nmX7 hown hK hP hD hS 0 rfl rfl 3 (by decide) (hts _ zw_1141) (fun _ h9 => h9) rfl (by decide +kernel) (by first | rfl | decide) (by first | rfl | decide) (Nat.le_of_ble_eq_true rfl) dX7_init_23 (fun H locs hP hD hS => ?_)
  have hP : va_P D vwCl [(h0, .inr (9, [.int 0, .ref q_1, .ref q_3, .int 32, .int 0, .int 0, .null])), (q_1, .inl (cA_2, 10, .inl (fun _ => 0))), (q_3, .inl (cA_4, 10, .inl (fun _ => 0)))] H := hP
  have hD : va_D A [(h0, .inr (9, [.int 0, .ref q_1, .ref q_3, .int 32, .int 0, .int 0, .null])), (q_1, .inl (cA_2, 10, .inl (fun _ => 0))), (q_3, .inl (cA_4, 10, .inl (fun _ => 0)))] := hD
  refine lv_aload_n hx hb dX7_init_26 rfl (lv_at hl 0 rfl) ?_
  refine lv_iconst (v := -1) hx hb dX7_init_27 (by decide) ?_
  refine va_put (D := D) (ci := 9) (v := .int (-1)) (ty := .int) (C := RX7) (T := TX7) (N := 7) hx hb hts zin_X7 tyX7 tyX7_ok nmX7 hown hK hP hD hS 0 rfl rfl 5 (by decide) (hts _ zw_1144) (fun _ h9 => h9) rfl (by decide +kernel) rfl rfl (Nat.le_of_ble_eq_true rfl) dX7_init_28 (fun H locs hP hD hS => ?_)
  have hP : va_P D vwCl [(h0, .inr (9, [.int 0, .ref q_1, .ref q_3, .int 32, .int 0, .int (-1), .null])), (q_1, .inl (cA_2, 10, .inl (fun _ => 0))), (q_3, .inl (cA_4, 10, .inl (fun _ => 0)))] H := hP
  have hD : va_D A [(h0, .inr (9, [.int 0, .ref q_1, .ref q_3, .int 32, .int 0, .int (-1), .null])), (q_1, .inl (cA_2, 10, .inl (fun _ => 0))), (q_3, .inl (cA_4, 10, .inl (fun _ => 0)))] := hD
  refine lv_aload_n hx hb dX7_init_31 rfl (lv_at hl 0 rfl) ?_
  refine lv_iconst (v := 4) hx hb dX7_init_32 (by decide) ?_
  refine va_newa (atype := .int) (ty := .int) (N' := 4) (a0 := (4, .inl (fun _ => 0))) hx hb (hts _ zw_170) rfl hK hP hD hS hA (fun cA => rfl) (by decide) (by decide) (by decide) (Nat.le_of_ble_eq_true rfl) (Nat.le_of_ble_eq_true rfl) dX7_init_33 (fun q_5 cA_6 H hK hP hD hS => ?_)
  have hP : va_P D vwCl [(h0, .inr (9, [.int 0, .ref q_1, .ref q_3, .int 32, .int 0, .int (-1), .null])), (q_1, .inl (cA_2, 10, .inl (fun _ => 0))), (q_3, .inl (cA_4, 10, .inl (fun _ => 0))), (q_5, .inl (cA_6, 4, .inl (fun _ => 0)))] H := hP
  have hD : va_D A [(h0, .inr (9, [.int 0, .ref q_1, .ref q_3, .int 32, .int 0, .int (-1), .null])), (q_1, .inl (cA_2, 10, .inl (fun _ => 0))), (q_3, .inl (cA_4, 10, .inl (fun _ => 0))), (q_5, .inl (cA_6, 4, .inl (fun _ => 0)))] := hD
  have hK : va_K D vwCl [(cA_2, .boolean), (cA_4, .boolean), (cA_6, .int)] s := hK
  refine va_putF (D := D) (ci := 9) (v := .ref q_5) (ty := .array .int) (C := RX7) (T := TX7) (N := 7) hx hb hts zin_X7 tyX7 tyX7_ok nmX7 hown hK hP hD hS 0 rfl rfl 6 (by decide) (hts _ zw_1146) (fun _ h9 => h9) rfl hin rfl (by decide +kernel) rfl rfl (Nat.le_of_ble_eq_true rfl) dX7_init_35 (fun H locs hP hD hS => ?_)
  have hP : va_P D vwCl [(h0, .inr (9, [.int 0, .ref q_1, .ref q_3, .int 32, .int 0, .int (-1), .ref q_5])), (q_1, .inl (cA_2, 10, .inl (fun _ => 0))), (q_3, .inl (cA_4, 10, .inl (fun _ => 0))), (q_5, .inl (cA_6, 4, .inl (fun _ => 0)))] H := hP
  have hD : va_D A [(h0, .inr (9, [.int 0, .ref q_1, .ref q_3, .int 32, .int 0, .int (-1), .ref q_5])), (q_1, .inl (cA_2, 10, .inl (fun _ => 0))), (q_3, .inl (cA_4, 10, .inl (fun _ => 0))), (q_5, .inl (cA_6, 4, .inl (fun _ => 0)))] := hD
  refine lv_aload_n hx hb dX7_init_38 rfl (lv_at hl 0 rfl) ?_
  refine lv_iload_n hx hb dX7_init_39 rfl (lv_at hl 1 rfl) ?_
  refine va_putF (D := D) (ci := 9) (v := .int a0) (ty := .int) (C := RX7) (T := TX7) (N := 7) hx hb hts zin_X7 tyX7 tyX7_ok nmX7 hown hK hP hD hS 0 rfl rfl 0 (by decide) (hts _ zw_1135) (fun _ h9 => h9) rfl hin rfl (by decide +kernel) rfl rfl (Nat.le_of_ble_eq_true rfl) dX7_init_40 (fun H locs hP hD hS => ?_)
  have hP : va_P D vwCl [(h0, .inr (9, [.int a0, .ref q_1, .ref q_3, .int 32, .int 0, .int (-1), .ref q_5])), (q_1, .inl (cA_2, 10, .inl (fun _ => 0))), (q_3, .inl (cA_4, 10, .inl (fun _ => 0))), (q_5, .inl (cA_6, 4, .inl (fun _ => 0)))] H := hP
  have hD : va_D A [(h0, .inr (9, [.int a0, .ref q_1, .ref q_3, .int 32, .int 0, .int (-1), .ref q_5])), (q_1, .inl (cA_2, 10, .inl (fun _ => 0))), (q_3, .inl (cA_4, 10, .inl (fun _ => 0))), (q_5, .inl (cA_6, 4, .inl (fun _ => 0)))] := hD
  exact W.vret hx hb hr (fun t ht hW => ⟨⟨(), rfl, trivial, ⟨q_1, q_3, q_5, z_end hP hK hD [0] rfl rfl [] rfl ht hW.alike⟩⟩, hS.F ht⟩) hS.2.2 dX7_init_43
theorem dX8_addUnit_0 : decode cX8_addUnit 0 = .ok (.aload_n 0, 1) := by decide +kernel
theorem dX8_addUnit_1 : decode cX8_addUnit 1 = .ok (.iload_n 1, 1) := by decide +kernel
theorem dX8_addUnit_2 : decode cX8_addUnit 2 = .ok (.i2l, 1) := by decide +kernel
theorem dX8_addUnit_3 : decode cX8_addUnit 3 = .ok (.ldc2_w 45, 3) := by decide +kernel
theorem zw_1116 : Cond.constantLong RX8 45 4 ∈ z_Ts := z_m 1116 (by decide +kernel) (by decide +kernel)
theorem dX8_addUnit_6 : decode cX8_addUnit 6 = .ok (.ldc2_w 47, 3) := by decide +kernel
theorem zw_1117 : Cond.constantLong RX8 47 12 ∈ z_Ts := z_m 1117 (by decide +kernel) (by decide +kernel)
theorem dX8_addUnit_9 : decode cX8_addUnit 9 = .ok (.invokestatic 37, 3) := by decide +kernel
theorem dX8_addUnit_12 : decode cX8_addUnit 12 = .ok (.ifCond .ne 7, 3) := by decide +kernel
theorem dX8_addUnit_19 : decode cX8_addUnit 19 = .ok (.aload_n 0, 1) := by decide +kernel
theorem dX8_addUnit_20 : decode cX8_addUnit 20 = .ok (.getfield 16, 3) := by decide +kernel
theorem dX8_addUnit_23 : decode cX8_addUnit 23 = .ok (.invokevirtual 49, 3) := by decide +kernel
theorem dX8_addUnit_26 : decode cX8_addUnit 26 = .ok (.ifCond .ne 7, 3) := by decide +kernel
theorem dX8_addUnit_33 : decode cX8_addUnit 33 = .ok (.aload_n 0, 1) := by decide +kernel
theorem dX8_addUnit_34 : decode cX8_addUnit 34 = .ok (.getfield 10, 3) := by decide +kernel
theorem dX8_addUnit_37 : decode cX8_addUnit 37 = .ok (.invokevirtual 33, 3) := by decide +kernel
theorem dX8_addUnit_40 : decode cX8_addUnit 40 = .ok (.bipush 10, 2) := by decide +kernel
theorem dX8_addUnit_42 : decode cX8_addUnit 42 = .ok (.if_icmp .ne 7, 3) := by decide +kernel
theorem dX8_addUnit_49 : decode cX8_addUnit 49 = .ok (.iconst 0, 1) := by decide +kernel
theorem dX8_addUnit_50 : decode cX8_addUnit 50 = .ok (.putfield 30, 3) := by decide +kernel
theorem dX8_addUnit_53 : decode cX8_addUnit 53 = .ok (.aload_n 0, 1) := by decide +kernel
theorem dX8_addUnit_54 : decode cX8_addUnit 54 = .ok (.getfield 30, 3) := by decide +kernel
theorem dX8_addUnit_57 : decode cX8_addUnit 57 = .ok (.ifCond .le 5, 3) := by decide +kernel
theorem dX8_addUnit_62 : decode cX8_addUnit 62 = .ok (.aload_n 0, 1) := by decide +kernel
theorem dX8_addUnit_63 : decode cX8_addUnit 63 = .ok (.getfield 10, 3) := by decide +kernel
theorem dX8_addUnit_66 : decode cX8_addUnit 66 = .ok (.new 53, 3) := by decide +kernel
theorem zw_1129 : Cond.classLink RX8 53 RX7 ∈ z_Ts := z_m 1129 (by decide +kernel) (by decide +kernel)
theorem zw_1130 : Cond.instantiable RX7 7 ∈ z_Ts := z_m 1130 (by decide +kernel) (by decide +kernel)
theorem zw_106 : Cond.initialized RX7 ∈ z_Ts := z_m 106 (by decide +kernel) (by decide +kernel)
theorem dX8_addUnit_69 : decode cX8_addUnit 69 = .ok (.dup, 1) := by decide +kernel
theorem dX8_addUnit_70 : decode cX8_addUnit 70 = .ok (.iload_n 1, 1) := by decide +kernel
theorem dX8_addUnit_71 : decode cX8_addUnit 71 = .ok (.invokespecial 55, 3) := by decide +kernel
theorem zw_1131 : Cond.methodLink RX8 55 yX7_init ∈ z_Ts := z_m 1131 (by decide +kernel) (by decide +kernel)
theorem zw_1133 : Cond.code yX7_init cX7_init 2 none ∈ z_Ts := z_m 1133 (by decide +kernel) (by decide +kernel)
theorem zw_1132 : Cond.instanceMethod yX7_init ∈ z_Ts := z_m 1132 (by decide +kernel) (by decide +kernel)
theorem dX8_addUnit_74 : decode cX8_addUnit 74 = .ok (.invokevirtual 58, 3) := by decide +kernel
theorem zw_1164 : Cond.methodLink RX8 58 yJx4a65c_add_9ea2d ∈ z_Ts := z_m 1164 (by decide +kernel) (by decide +kernel)
theorem zw_1165 : Cond.instanceMethod yJx4a65c_add_9ea2d ∈ z_Ts := z_m 1165 (by decide +kernel) (by decide +kernel)
theorem zw_1166 : Cond.selects RJx4a65c yJx4a65c_add_9ea2d yJx4a65c_add_9ea2d ∈ z_Ts := z_m 1166 (by decide +kernel) (by decide +kernel)
theorem zw_1167 : Cond.code yJx4a65c_add_9ea2d cJx4a65c_add_9ea2d 2 (some .boolean) ∈ z_Ts := z_m 1167 (by decide +kernel) (by decide +kernel)
theorem dX8_addUnit_77 : decode cX8_addUnit 77 = .ok (.pop, 1) := by decide +kernel
theorem dX8_addUnit_78 : decode cX8_addUnit 78 = .ok (.aload_n 0, 1) := by decide +kernel
theorem dX8_addUnit_79 : decode cX8_addUnit 79 = .ok (.getfield 10, 3) := by decide +kernel
theorem dX8_addUnit_82 : decode cX8_addUnit 82 = .ok (.invokevirtual 33, 3) := by decide +kernel
theorem dX8_addUnit_85 : decode cX8_addUnit 85 = .ok (.iconst 1, 1) := by decide +kernel
theorem dX8_addUnit_86 : decode cX8_addUnit 86 = .ok (.isub, 1) := by decide +kernel
theorem dX8_addUnit_87 : decode cX8_addUnit 87 = .ok (.ireturn, 1) := by decide +kernel
theorem dX8_addUnit_15 : decode cX8_addUnit 15 = .ok (.iconst 1, 1) := by decide +kernel
theorem dX8_addUnit_16 : decode cX8_addUnit 16 = .ok (.goto 34, 3) := by decide +kernel
theorem dX8_addUnit_60 : decode cX8_addUnit 60 = .ok (.iconst 0, 1) := by decide +kernel
theorem dX8_addUnit_61 : decode cX8_addUnit 61 = .ok (.ireturn, 1) := by decide +kernel
set_option maxHeartbeats 4000000 in
set_option maxRecDepth 100000 in
theorem g_X8_addUnit (l : Launch) (D : va_G) (m0 : Nat) (qu : Nat) (qs : Nat) (qc : Nat) (qp : Nat) (th : Int32) (es : Nat) (a0 : Int32) (sz : Nat)  : Met l yX8_addUnit [Cond.code yX8_addUnit cX8_addUnit 2 (some .int)] ({ frames := 5, cells := 5, slots := 41, locals := 200 }) (z_Pc D [.ref m0, .int a0] [(m0, .inr (10, [.int th, .ref qu, .ref qs, .ref qc, .ref qp, .int 0, .int (-1), .int 0, .null])), (qu, .inr (1, [.int 0, .ref (D.2 50 0), .int 0])), (qs, .inr (1, [.int 0, .ref es, .int 0]))] [] sz) (va_Qi (fun (r : Int32) (_ : Unit) => r = 0) (fun _ t => ∃ t1 : Int32, t1 = (if (4 ≤ a0.toInt64 ∧ a0.toInt64 ≤ 12) then 0 else 1) ∧ z_W D [(m0, .inr (10, [.int t1, .ref qu, .ref qs, .ref qc, .ref qp, .int 0, .int (-1), .int 0, .null]))] [] (va_A [(m0, .inr (10, [.int th, .ref qu, .ref qs, .ref qc, .ref qp, .int 0, .int (-1), .int 0, .null])), (qu, .inr (1, [.int 0, .ref (D.2 50 0), .int 0])), (qs, .inr (1, [.int 0, .ref es, .int 0]))] sz) t) (va_A [(m0, .inr (10, [.int th, .ref qu, .ref qs, .ref qc, .ref qp, .int 0, .int (-1), .int 0, .null])), (qu, .inr (1, [.int 0, .ref (D.2 50 0), .int 0])), (qs, .inr (1, [.int 0, .ref es, .int 0]))] sz)) 5 41 (va_A [(m0, .inr (10, [.int th, .ref qu, .ref qs, .ref qc, .ref qp, .int 0, .int (-1), .int 0, .null])), (qu, .inr (1, [.int 0, .ref (D.2 50 0), .int 0])), (qs, .inr (1, [.int 0, .ref es, .int 0]))] sz) := by
  refine Met.ofW (cc := cX8_addUnit) (maxL := 2) (ret := (some .int)) (by decide +kernel) rfl ?_
  intro p e s m args below meth c s₁ B hml hv
  obtain ⟨rfl, hsz, hP, hK, hD0, hE, hX0⟩ := hv
  have hx := B.exec
  have hb := B.bytes
  have hr := B.returns
  have hts := z_E.ts (args := [.ref m0, .int a0].toArray) hE
  have hown : s.vm.findClass RX8 = some m.cls := findClass_of_methodNamed B.named
  have hlocks := B.notSynchronized
  subst hsz
  have hD := hD0.self (sz := s.heap.size)
  generalize hAe : va_A [(m0, .inr (10, [.int th, .ref qu, .ref qs, .ref qc, .ref qp, .int 0, .int (-1), .int 0, .null])), (qu, .inr (1, [.int 0, .ref (D.2 50 0), .int 0])), (qs, .inr (1, [.int 0, .ref es, .int 0]))] s.heap.size = A at hD hX0 ⊢
  have hX : z_X D A s s.heap := hX0
  have hA : ∀ q : Nat, s.heap.size ≤ q → A q := fun q h => by rw [← hAe]; exact Or.inr h
  have hS : va_S A s.heap s.heap [] := va_S.rf
  have hP : va_P D vwCl [(m0, .inr (10, [.int th, .ref qu, .ref qs, .ref qc, .ref qp, .int 0, .int (-1), .int 0, .null])), (qu, .inr (1, [.int 0, .ref (D.2 50 0), .int 0])), (qs, .inr (1, [.int 0, .ref es, .int 0]))] s.heap := hP
  have hl := lv_entry ([.ref m0, .int a0]) (n := 2) (Nat.le_of_ble_eq_true rfl)
  rw [lg_entry_eq]
  generalize (lg_sl ([.ref m0, .int a0]) ++ List.replicate (2 - (lg_sl ([.ref m0, .int a0])).length) Slot.unset).toArray = ls at hl ⊢
  have hl : lv_has ls 2 [(0, .ref m0), (1, .int a0)] := hl
  skip
  refine lv_aload_n hx hb dX8_addUnit_0 rfl (lv_at hl 0 rfl) ?_
  refine lv_iload_n hx hb dX8_addUnit_1 rfl (lv_at hl 1 rfl) ?_
  refine lv_i2l hx hb dX8_addUnit_2 rfl ?_
  refine lv_ldc2 hx hb hown (hts _ zw_1116) dX8_addUnit_3 ?_
  refine lv_ldc2 hx hb hown (hts _ zw_1117) dX8_addUnit_6 ?_
  obtain ⟨hb_1, hc_1⟩ := z_call (wc := []) (tc := []) ([.long (a0).toInt64, .long 4, .long 12]) hP hK hD hS hA hE hX [] rfl rfl [] rfl
  have hF_1 := va_free (wc := []) hD hS hA [] rfl
  refine va_calli (va_runS (As := [.long (a0).toInt64, .long 4, .long 12]) (rest := [.ref m0]) ⟨hx, hb, hml, hown, hts⟩ (c_X8_in l D ((a0).toInt64) 4 12 _ ) (⟨z_cB 3 hE zw_1118 zw_96 zw_1120 rfl rfl rfl (by decide +kernel) ⟨(Nat.le_of_ble_eq_true rfl), (Nat.le_of_ble_eq_true rfl)⟩, hE.ts _ zw_1119⟩) ⟨hb_1, hc_1⟩ rfl rfl hl.1 rfl (lv_room (Nat.le_of_ble_eq_true rfl)) dX8_addUnit_9 ⟨(Nat.le_of_ble_eq_true rfl), (Nat.le_of_ble_eq_true rfl)⟩) hS (fun q _ h => hF_1 q h) hF_1 (fun r_1 u_1 t_1 H1 locs ht_1 hvm_1 hw_1 hB_1 hz_1 hk_1 hS1 => ?_)
  obtain ⟨hP, hK, hD⟩ := z_back (wc := []) (wr := [(m0, .inr (10, [.int th, .ref qu, .ref qs, .ref qc, .ref qp, .int 0, .int (-1), .int 0, .null])), (qu, .inr (1, [.int 0, .ref (D.2 50 0), .int 0])), (qs, .inr (1, [.int 0, .ref es, .int 0]))]) (w1 := []) (tr := []) hP hK hD [] [0, 1, 2] rfl rfl rfl (by decide) ht_1 hvm_1 hk_1 hF_1 [] rfl hB_1
  have hS := hS1
  have hP : va_P D vwCl [(m0, .inr (10, [.int th, .ref qu, .ref qs, .ref qc, .ref qp, .int 0, .int (-1), .int 0, .null])), (qu, .inr (1, [.int 0, .ref (D.2 50 0), .int 0])), (qs, .inr (1, [.int 0, .ref es, .int 0]))] H1 := hP
  have hD : va_D A [(m0, .inr (10, [.int th, .ref qu, .ref qs, .ref qc, .ref qp, .int 0, .int (-1), .int 0, .null])), (qu, .inr (1, [.int 0, .ref (D.2 50 0), .int 0])), (qs, .inr (1, [.int 0, .ref es, .int 0]))] := hD
  have hK : va_K D vwCl [] s := hK
  clear hS1
  rcases hw_1 with ⟨rfl, g1⟩ | ⟨rfl, g1⟩
  · refine lv_if_ne (tgt := 19) hx hb dX8_addUnit_12 (by decide) (fun c_2 => ?_) (fun c_2 => absurd c_2 (by decide))
    refine lv_aload_n hx hb dX8_addUnit_19 rfl (lv_at hl 0 rfl) ?_
    refine va_get (D := D) (ci := 10) (v := .ref qs) (C := RX8) (T := TX8) (N := 9) hx hb hts zin_X8 hown hK hP 0 rfl rfl 2 (by decide) (hts _ zw_1082) (fun _ h9 => h9) rfl dX8_addUnit_20 ?_
    obtain ⟨hb_3, hc_3⟩ := z_call (wc := [(qs, .inr (1, [.int 0, .ref es, .int 0]))]) (tc := []) ([.ref qs]) hP hK hD hS hA hE hX [2] rfl rfl [] rfl
    have hF_3 := va_free (wc := [(qs, .inr (1, [.int 0, .ref es, .int 0]))]) hD hS hA [2] rfl
    refine va_calli (va_runV (As := []) (rest := [.ref m0]) ⟨hx, hb, hml, hown, hts⟩ (c_al_isEmpty l D qs 0 es _ ) (z_cV 0 hE zw_1121 zw_1122 zw_1123 zw_99 zw_1124 rfl rfl rfl (by decide +kernel) ⟨(Nat.le_of_ble_eq_true rfl), (Nat.le_of_ble_eq_true rfl)⟩) ⟨hb_3, va_recv hK hP (ci := 1) (q0 := 2) rfl rfl, hc_3⟩ rfl rfl hl.1 rfl (lv_room (Nat.le_of_ble_eq_true rfl)) dX8_addUnit_23 ⟨(Nat.le_of_ble_eq_true rfl), (Nat.le_of_ble_eq_true rfl)⟩) hS (fun q _ h => hF_3 q h) hF_3 (fun r_3 u_3 t_3 H1 locs ht_3 hvm_3 hw_3 hB_3 hz_3 hk_3 hS1 => ?_)
    obtain ⟨hP, hK, hD⟩ := z_back (wc := [(qs, .inr (1, [.int 0, .ref es, .int 0]))]) (wr := [(m0, .inr (10, [.int th, .ref qu, .ref qs, .ref qc, .ref qp, .int 0, .int (-1), .int 0, .null])), (qu, .inr (1, [.int 0, .ref (D.2 50 0), .int 0]))]) (w1 := [(qs, .inr (1, [.int 0, .ref es, .int 0]))]) (tr := []) hP hK hD [2] [0, 1] rfl rfl rfl (by decide) ht_3 hvm_3 hk_3 hF_3 [] rfl hB_3
    have hS := hS1
    have hP : va_P D vwCl [(m0, .inr (10, [.int th, .ref qu, .ref qs, .ref qc, .ref qp, .int 0, .int (-1), .int 0, .null])), (qu, .inr (1, [.int 0, .ref (D.2 50 0), .int 0])), (qs, .inr (1, [.int 0, .ref es, .int 0]))] H1 := hP
    have hD : va_D A [(m0, .inr (10, [.int th, .ref qu, .ref qs, .ref qc, .ref qp, .int 0, .int (-1), .int 0, .null])), (qu, .inr (1, [.int 0, .ref (D.2 50 0), .int 0])), (qs, .inr (1, [.int 0, .ref es, .int 0]))] := hD
    have hK : va_K D vwCl [] s := hK
    clear hS1
    obtain rfl : r_3 = 1 := hw_3
    refine lv_if_ne (tgt := 33) hx hb dX8_addUnit_26 (by decide) (fun c_4 => ?_) (fun c_4 => absurd c_4 (by decide))
    refine lv_aload_n hx hb dX8_addUnit_33 rfl (lv_at hl 0 rfl) ?_
    refine va_get (D := D) (ci := 10) (v := .ref qu) (C := RX8) (T := TX8) (N := 9) hx hb hts zin_X8 hown hK hP 0 rfl rfl 1 (by decide) (hts _ zw_1081) (fun _ h9 => h9) rfl dX8_addUnit_34 ?_
    obtain ⟨hb_5, hc_5⟩ := z_call (wc := [(qu, .inr (1, [.int 0, .ref (D.2 50 0), .int 0]))]) (tc := []) ([.ref qu]) hP hK hD hS hA hE hX [1] rfl rfl [] rfl
    have hF_5 := va_free (wc := [(qu, .inr (1, [.int 0, .ref (D.2 50 0), .int 0]))]) hD hS hA [1] rfl
    refine va_calli (va_runV (As := []) (rest := [.ref m0]) ⟨hx, hb, hml, hown, hts⟩ (c_J_size l D qu 0 (D.2 50 0) 0 _ ) (z_cV 0 hE zw_1125 zw_1126 zw_1127 zw_99 zw_1128 rfl rfl rfl (by decide +kernel) ⟨(Nat.le_of_ble_eq_true rfl), (Nat.le_of_ble_eq_true rfl)⟩) ⟨hb_5, va_recv hK hP (ci := 1) (q0 := 1) rfl rfl, hc_5⟩ rfl rfl hl.1 rfl (lv_room (Nat.le_of_ble_eq_true rfl)) dX8_addUnit_37 ⟨(Nat.le_of_ble_eq_true rfl), (Nat.le_of_ble_eq_true rfl)⟩) hS (fun q _ h => hF_5 q h) hF_5 (fun r_5 u_5 t_5 H1 locs ht_5 hvm_5 hw_5 hB_5 hz_5 hk_5 hS1 => ?_)
    obtain ⟨hP, hK, hD⟩ := z_back (wc := [(qu, .inr (1, [.int 0, .ref (D.2 50 0), .int 0]))]) (wr := [(m0, .inr (10, [.int th, .ref qu, .ref qs, .ref qc, .ref qp, .int 0, .int (-1), .int 0, .null])), (qs, .inr (1, [.int 0, .ref es, .int 0]))]) (w1 := [(qu, .inr (1, [.int 0, .ref (D.2 50 0), .int 0]))]) (tr := []) hP hK hD [1] [0, 2] rfl rfl rfl (by decide) ht_5 hvm_5 hk_5 hF_5 [] rfl hB_5
    have hS := hS1
    have hP : va_P D vwCl [(m0, .inr (10, [.int th, .ref qu, .ref qs, .ref qc, .ref qp, .int 0, .int (-1), .int 0, .null])), (qs, .inr (1, [.int 0, .ref es, .int 0])), (qu, .inr (1, [.int 0, .ref (D.2 50 0), .int 0]))] H1 := hP
    have hD : va_D A [(m0, .inr (10, [.int th, .ref qu, .ref qs, .ref qc, .ref qp, .int 0, .int (-1), .int 0, .null])), (qs, .inr (1, [.int 0, .ref es, .int 0])), (qu, .inr (1, [.int 0, .ref (D.2 50 0), .int 0]))] := hD
    have hK : va_K D vwCl [] s := hK
    clear hS1
    obtain rfl : r_5 = 0 := hw_5
    refine lv_bipush (v := 10) hx hb dX8_addUnit_40 (by decide) ?_
    refine lv_icmp_ne (tgt := 49) hx hb dX8_addUnit_42 (by decide) (fun c_6 => ?_) (fun c_6 => absurd c_6 (by decide))
    refine lv_iconst (v := 0) hx hb dX8_addUnit_49 (by decide) ?_
    refine va_put (D := D) (ci := 10) (v := .int 0) (ty := .int) (C := RX8) (T := TX8) (N := 9) hx hb hts zin_X8 tyX8 tyX8_ok nmX8 hown hK hP hD hS 0 rfl rfl 0 (by decide) (hts _ zw_1080) (fun _ h9 => h9) rfl (by decide +kernel) rfl rfl (Nat.le_of_ble_eq_true rfl) dX8_addUnit_50 (fun H locs hP hD hS => ?_)
    have hP : va_P D vwCl [(m0, .inr (10, [.int 0, .ref qu, .ref qs, .ref qc, .ref qp, .int 0, .int (-1), .int 0, .null])), (qs, .inr (1, [.int 0, .ref es, .int 0])), (qu, .inr (1, [.int 0, .ref (D.2 50 0), .int 0]))] H := hP
    have hD : va_D A [(m0, .inr (10, [.int 0, .ref qu, .ref qs, .ref qc, .ref qp, .int 0, .int (-1), .int 0, .null])), (qs, .inr (1, [.int 0, .ref es, .int 0])), (qu, .inr (1, [.int 0, .ref (D.2 50 0), .int 0]))] := hD
    refine lv_aload_n hx hb dX8_addUnit_53 rfl (lv_at hl 0 rfl) ?_
    refine va_get (D := D) (ci := 10) (v := .int 0) (C := RX8) (T := TX8) (N := 9) hx hb hts zin_X8 hown hK hP 0 rfl rfl 0 (by decide) (hts _ zw_1080) (fun _ h9 => h9) rfl dX8_addUnit_54 ?_
    refine lv_if_le (tgt := 62) hx hb dX8_addUnit_57 (by decide) (fun c_7 => ?_) (fun c_7 => absurd (by decide) c_7)
    refine lv_aload_n hx hb dX8_addUnit_62 rfl (lv_at hl 0 rfl) ?_
    refine va_get (D := D) (ci := 10) (v := .ref qu) (C := RX8) (T := TX8) (N := 9) hx hb hts zin_X8 hown hK hP 0 rfl rfl 1 (by decide) (hts _ zw_1081) (fun _ h9 => h9) rfl dX8_addUnit_63 ?_
    refine va_new (ci := 9) (fs := [.int 0, .null, .null, .int 0, .int 0, .int 0, .null]) (C := RX7) (T := TX7) (N := 7) hx hb hts zin_X7 tyX7 tyX7_ok hown (hts _ zw_1129) (hts _ zw_1130) (hts _ zw_106) hK hP hD hS hA rfl (fun j hj => by rcases (show j = 0 ∨ j = 1 ∨ j = 2 ∨ j = 3 ∨ j = 4 ∨ j = 5 ∨ j = 6 by omega) with rfl | rfl | rfl | rfl | rfl | rfl | rfl <;> rfl) (Nat.le_of_ble_eq_true rfl) (Nat.le_of_ble_eq_true rfl) dX8_addUnit_66 (fun q_8 H hP hD hS => ?_)
    have hP : va_P D vwCl [(m0, .inr (10, [.int 0, .ref qu, .ref qs, .ref qc, .ref qp, .int 0, .int (-1), .int 0, .null])), (qs, .inr (1, [.int 0, .ref es, .int 0])), (qu, .inr (1, [.int 0, .ref (D.2 50 0), .int 0])), (q_8, .inr (9, [.int 0, .null, .null, .int 0, .int 0, .int 0, .null]))] H := hP
    have hD : va_D A [(m0, .inr (10, [.int 0, .ref qu, .ref qs, .ref qc, .ref qp, .int 0, .int (-1), .int 0, .null])), (qs, .inr (1, [.int 0, .ref es, .int 0])), (qu, .inr (1, [.int 0, .ref (D.2 50 0), .int 0])), (q_8, .inr (9, [.int 0, .null, .null, .int 0, .int 0, .int 0, .null]))] := hD
    refine lv_dup hx hb dX8_addUnit_69 rfl ?_
    refine lv_iload_n hx hb dX8_addUnit_70 rfl (lv_at hl 1 rfl) ?_
    obtain ⟨hb_12, hc_12⟩ := z_call (wc := [(q_8, .inr (9, [.int 0, .null, .null, .int 0, .int 0, .int 0, .null]))]) (tc := []) ([.ref q_8, .int a0]) hP hK hD hS hA hE hX [3] rfl rfl [] rfl
    have hF_12 := va_free (wc := [(q_8, .inr (9, [.int 0, .null, .null, .int 0, .int 0, .int 0, .null]))]) hD hS hA [3] rfl
    refine va_callv (va_runI (As := [.int a0]) (rest := [.ref q_8, .ref qu]) ⟨hx, hb, hml, hown, hts⟩ (c_X7_init l D q_8 a0 _ ) (⟨z_cB 1 hE zw_1131 zw_106 zw_1133 rfl rfl rfl (by decide +kernel) ⟨(Nat.le_of_ble_eq_true rfl), (Nat.le_of_ble_eq_true rfl)⟩, rfl, hE.ts _ zw_1132⟩) ⟨hb_12, hc_12⟩ rfl rfl hl.1 rfl (lv_room (Nat.le_of_ble_eq_true rfl)) dX8_addUnit_71 ⟨(Nat.le_of_ble_eq_true rfl), (Nat.le_of_ble_eq_true rfl)⟩) hS (fun q _ h => hF_12 q h) hF_12 (fun u_12 t_12 H1 locs ht_12 hvm_12 hw_12 hB_12 hz_12 hk_12 hS1 => ?_)
    obtain ⟨v_9, v_10, v_11, hB_12⟩ := hB_12
    obtain ⟨hP, hK, hD⟩ := z_back (wc := [(q_8, .inr (9, [.int 0, .null, .null, .int 0, .int 0, .int 0, .null]))]) (wr := [(m0, .inr (10, [.int 0, .ref qu, .ref qs, .ref qc, .ref qp, .int 0, .int (-1), .int 0, .null])), (qs, .inr (1, [.int 0, .ref es, .int 0])), (qu, .inr (1, [.int 0, .ref (D.2 50 0), .int 0]))]) (w1 := [(q_8, .inr (9, [.int a0, .ref v_9, .ref v_10, .int 32, .int 0, .int (-1), .ref v_11]))]) (tr := []) hP hK hD [3] [0, 1, 2] rfl rfl rfl (by decide) ht_12 hvm_12 hk_12 hF_12 [] rfl hB_12
    have hS := hS1
    have hP : va_P D vwCl [(m0, .inr (10, [.int 0, .ref qu, .ref qs, .ref qc, .ref qp, .int 0, .int (-1), .int 0, .null])), (qs, .inr (1, [.int 0, .ref es, .int 0])), (qu, .inr (1, [.int 0, .ref (D.2 50 0), .int 0])), (q_8, .inr (9, [.int a0, .ref v_9, .ref v_10, .int 32, .int 0, .int (-1), .ref v_11]))] H1 := hP
    have hD : va_D A [(m0, .inr (10, [.int 0, .ref qu, .ref qs, .ref qc, .ref qp, .int 0, .int (-1), .int 0, .null])), (qs, .inr (1, [.int 0, .ref es, .int 0])), (qu, .inr (1, [.int 0, .ref (D.2 50 0), .int 0])), (q_8, .inr (9, [.int a0, .ref v_9, .ref v_10, .int 32, .int 0, .int (-1), .ref v_11]))] := hD
    have hK : va_K D vwCl [] s := hK
    clear hS1
    obtain ⟨hb_14, hc_14⟩ := z_call (wc := [(qu, .inr (1, [.int 0, .ref (D.2 50 0), .int 0])), (q_8, .inr (9, [.int a0, .ref v_9, .ref v_10, .int 32, .int 0, .int (-1), .ref v_11]))]) (tc := []) ([.ref qu, .ref q_8]) hP hK hD hS hA hE hX [2, 3] rfl rfl [] rfl
    have hF_14 := va_free (wc := [(qu, .inr (1, [.int 0, .ref (D.2 50 0), .int 0])), (q_8, .inr (9, [.int a0, .ref v_9, .ref v_10, .int 32, .int 0, .int (-1), .ref v_11]))]) hD hS hA [2, 3] rfl
    refine va_calli (va_runV (As := [.ref q_8]) (rest := []) ⟨hx, hb, hml, hown, hts⟩ (c_al_add1_9 l D qu q_8 ([.int a0, .ref v_9, .ref v_10, .int 32, .int 0, .int (-1), .ref v_11]) _ ) (z_cV 1 hE zw_1164 zw_1165 zw_1166 zw_99 zw_1167 rfl rfl rfl (by decide +kernel) ⟨(Nat.le_of_ble_eq_true rfl), (Nat.le_of_ble_eq_true rfl)⟩) ⟨hb_14, va_recv hK hP (ci := 1) (q0 := 2) rfl rfl, hc_14⟩ rfl rfl hl.1 rfl (lv_room (Nat.le_of_ble_eq_true rfl)) dX8_addUnit_74 ⟨(Nat.le_of_ble_eq_true rfl), (Nat.le_of_ble_eq_true rfl)⟩) hS (fun q _ h => hF_14 q h) hF_14 (fun r_14 u_14 t_14 H1 locs ht_14 hvm_14 hw_14 hB_14 hz_14 hk_14 hS1 => ?_)
    obtain ⟨qn_13, hB_14⟩ := hB_14
    obtain ⟨hP, hK, hD⟩ := z_back (wc := [(qu, .inr (1, [.int 0, .ref (D.2 50 0), .int 0])), (q_8, .inr (9, [.int a0, .ref v_9, .ref v_10, .int 32, .int 0, .int (-1), .ref v_11]))]) (wr := [(m0, .inr (10, [.int 0, .ref qu, .ref qs, .ref qc, .ref qp, .int 0, .int (-1), .int 0, .null])), (qs, .inr (1, [.int 0, .ref es, .int 0]))]) (w1 := [(qu, .inr (1, [.int 1, .ref qn_13, .int 1]))]) (tr := []) hP hK hD [2, 3] [0, 1] rfl rfl rfl (by decide) ht_14 hvm_14 hk_14 hF_14 [] rfl hB_14
    have hS := hS1
    have hP : va_P D vwCl [(m0, .inr (10, [.int 0, .ref qu, .ref qs, .ref qc, .ref qp, .int 0, .int (-1), .int 0, .null])), (qs, .inr (1, [.int 0, .ref es, .int 0])), (qu, .inr (1, [.int 1, .ref qn_13, .int 1]))] H1 := hP
    have hD : va_D A [(m0, .inr (10, [.int 0, .ref qu, .ref qs, .ref qc, .ref qp, .int 0, .int (-1), .int 0, .null])), (qs, .inr (1, [.int 0, .ref es, .int 0])), (qu, .inr (1, [.int 1, .ref qn_13, .int 1]))] := hD
    have hK : va_K D vwCl [] s := hK
    clear hS1
    obtain rfl : r_14 = 1 := hw_14
    refine lv_pop hx hb dX8_addUnit_77 rfl ?_
    refine lv_aload_n hx hb dX8_addUnit_78 rfl (lv_at hl 0 rfl) ?_
    refine va_get (D := D) (ci := 10) (v := .ref qu) (C := RX8) (T := TX8) (N := 9) hx hb hts zin_X8 hown hK hP 0 rfl rfl 1 (by decide) (hts _ zw_1081) (fun _ h9 => h9) rfl dX8_addUnit_79 ?_
    obtain ⟨hb_15, hc_15⟩ := z_call (wc := [(qu, .inr (1, [.int 1, .ref qn_13, .int 1]))]) (tc := []) ([.ref qu]) hP hK hD hS hA hE hX [2] rfl rfl [] rfl
    have hF_15 := va_free (wc := [(qu, .inr (1, [.int 1, .ref qn_13, .int 1]))]) hD hS hA [2] rfl
    refine va_calli (va_runV (As := []) (rest := []) ⟨hx, hb, hml, hown, hts⟩ (c_J_size l D qu 1 qn_13 1 _ ) (z_cV 0 hE zw_1125 zw_1126 zw_1127 zw_99 zw_1128 rfl rfl rfl (by decide +kernel) ⟨(Nat.le_of_ble_eq_true rfl), (Nat.le_of_ble_eq_true rfl)⟩) ⟨hb_15, va_recv hK hP (ci := 1) (q0 := 2) rfl rfl, hc_15⟩ rfl rfl hl.1 rfl (lv_room (Nat.le_of_ble_eq_true rfl)) dX8_addUnit_82 ⟨(Nat.le_of_ble_eq_true rfl), (Nat.le_of_ble_eq_true rfl)⟩) hS (fun q _ h => hF_15 q h) hF_15 (fun r_15 u_15 t_15 H1 locs ht_15 hvm_15 hw_15 hB_15 hz_15 hk_15 hS1 => ?_)
    obtain ⟨hP, hK, hD⟩ := z_back (wc := [(qu, .inr (1, [.int 1, .ref qn_13, .int 1]))]) (wr := [(m0, .inr (10, [.int 0, .ref qu, .ref qs, .ref qc, .ref qp, .int 0, .int (-1), .int 0, .null])), (qs, .inr (1, [.int 0, .ref es, .int 0]))]) (w1 := [(qu, .inr (1, [.int 1, .ref qn_13, .int 1]))]) (tr := []) hP hK hD [2] [0, 1] rfl rfl rfl (by decide) ht_15 hvm_15 hk_15 hF_15 [] rfl hB_15
    have hS := hS1
    have hP : va_P D vwCl [(m0, .inr (10, [.int 0, .ref qu, .ref qs, .ref qc, .ref qp, .int 0, .int (-1), .int 0, .null])), (qs, .inr (1, [.int 0, .ref es, .int 0])), (qu, .inr (1, [.int 1, .ref qn_13, .int 1]))] H1 := hP
    have hD : va_D A [(m0, .inr (10, [.int 0, .ref qu, .ref qs, .ref qc, .ref qp, .int 0, .int (-1), .int 0, .null])), (qs, .inr (1, [.int 0, .ref es, .int 0])), (qu, .inr (1, [.int 1, .ref qn_13, .int 1]))] := hD
    have hK : va_K D vwCl [] s := hK
    clear hS1
    obtain rfl : r_15 = 1 := hw_15
    refine lv_iconst (v := 1) hx hb dX8_addUnit_85 (by decide) ?_
    refine lv_isub hx hb dX8_addUnit_86 ?_
    refine lv_topi (fun x_16 ex_16 => ?_)
    obtain rfl : x_16 = 0 := ex_16.trans (by first | rfl | decide | simp)
    exact W.iret (v := 0) hx hb hr (fun t ht hW => ⟨⟨0, (), rfl, rfl, ⟨0, (if_pos g1).symm, z_end hP hK hD [0] rfl rfl [] rfl ht hW.alike⟩⟩, hS.F ht⟩) hS.2.2 dX8_addUnit_87
  · refine lv_if_ne (tgt := 19) hx hb dX8_addUnit_12 (by decide) (fun c_2 => absurd (by decide) c_2) (fun c_2 => ?_)
    refine lv_iconst (v := 1) hx hb dX8_addUnit_15 (by decide) ?_
    refine lv_goto (tgt := 50) hx hb dX8_addUnit_16 (by decide) ?_
    refine va_put (D := D) (ci := 10) (v := .int 1) (ty := .int) (C := RX8) (T := TX8) (N := 9) hx hb hts zin_X8 tyX8 tyX8_ok nmX8 hown hK hP hD hS 0 rfl rfl 0 (by decide) (hts _ zw_1080) (fun _ h9 => h9) rfl (by decide +kernel) rfl rfl (Nat.le_of_ble_eq_true rfl) dX8_addUnit_50 (fun H locs hP hD hS => ?_)
    have hP : va_P D vwCl [(m0, .inr (10, [.int 1, .ref qu, .ref qs, .ref qc, .ref qp, .int 0, .int (-1), .int 0, .null])), (qu, .inr (1, [.int 0, .ref (D.2 50 0), .int 0])), (qs, .inr (1, [.int 0, .ref es, .int 0]))] H := hP
    have hD : va_D A [(m0, .inr (10, [.int 1, .ref qu, .ref qs, .ref qc, .ref qp, .int 0, .int (-1), .int 0, .null])), (qu, .inr (1, [.int 0, .ref (D.2 50 0), .int 0])), (qs, .inr (1, [.int 0, .ref es, .int 0]))] := hD
    refine lv_aload_n hx hb dX8_addUnit_53 rfl (lv_at hl 0 rfl) ?_
    refine va_get (D := D) (ci := 10) (v := .int 1) (C := RX8) (T := TX8) (N := 9) hx hb hts zin_X8 hown hK hP 0 rfl rfl 0 (by decide) (hts _ zw_1080) (fun _ h9 => h9) rfl dX8_addUnit_54 ?_
    refine lv_if_le (tgt := 62) hx hb dX8_addUnit_57 (by decide) (fun c_3 => absurd c_3 (by decide)) (fun c_3 => ?_)
    refine lv_iconst (v := 0) hx hb dX8_addUnit_60 (by decide) ?_
    refine W.widen (k := 5) (n := 41) (Nat.le_of_ble_eq_true rfl) (Nat.le_of_ble_eq_true rfl) ?_
    exact W.iret (v := 0) hx hb hr (fun t ht hW => ⟨⟨0, (), rfl, rfl, ⟨1, (if_neg g1).symm, z_end hP hK hD [0] rfl rfl [] rfl ht hW.alike⟩⟩, hS.F ht⟩) hS.2.2 dX8_addUnit_61
