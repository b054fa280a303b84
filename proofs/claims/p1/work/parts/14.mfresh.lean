theorem dX8_noWork_0 : decode cX8_noWork 0 = .ok (.aload_n 0, 1) := by decide +kernel
theorem dX8_noWork_1 : decode cX8_noWork 1 = .ok (.iload_n 1, 1) := by decide +kernel
theorem dX8_noWork_2 : decode cX8_noWork 2 = .ok (.invokevirtual 77, 3) := by decide +kernel
theorem zw_1251 : Cond.methodLink RX8 77 yX8_noUnit ∈ z_Ts := z_m 1251 (by decide +kernel) (by decide +kernel)
theorem zw_1253 : Cond.instanceMethod yX8_noUnit ∈ z_Ts := z_m 1253 (by decide +kernel) (by decide +kernel)
theorem zw_64 : Cond.selects RX8 yX8_noUnit yX8_noUnit ∈ z_Ts := z_m 64 (by decide +kernel) (by decide +kernel)
theorem zw_1254 : Cond.code yX8_noUnit cX8_noUnit 2 (some .boolean) ∈ z_Ts := z_m 1254 (by decide +kernel) (by decide +kernel)
theorem dX8_noWork_5 : decode cX8_noWork 5 = .ok (.ifCond .ne 31, 3) := by decide +kernel
theorem dX8_noWork_36 : decode cX8_noWork 36 = .ok (.aload_n 0, 1) := by decide +kernel
theorem dX8_noWork_37 : decode cX8_noWork 37 = .ok (.getfield 30, 3) := by decide +kernel
theorem dX8_noWork_40 : decode cX8_noWork 40 = .ok (.ifCond .le 7, 3) := by decide +kernel
theorem dX8_noWork_43 : decode cX8_noWork 43 = .ok (.iconst 1, 1) := by decide +kernel
theorem dX8_noWork_44 : decode cX8_noWork 44 = .ok (.goto 4, 3) := by decide +kernel
theorem dX8_noWork_48 : decode cX8_noWork 48 = .ok (.ireturn, 1) := by decide +kernel
set_option maxHeartbeats 4000000 in
set_option maxRecDepth 100000 in
theorem f_X8_noWork (l : Launch) (D : va_G) (m0 : Nat) (qu : Nat) (qs : Nat) (qc : Nat) (qp : Nat) (th : Int32) (eu : Nat) (a0 : Int32) (sz : Nat)  : Met l yX8_noWork [Cond.code yX8_noWork cX8_noWork 2 (some .boolean)] ({ frames := 4, cells := 0, slots := 0, locals := 120 }) (z_Pc D [.ref m0, .int a0] [(m0, .inr (10, [.int th, .ref qu, .ref qs, .ref qc, .ref qp, .int 0, .int (-1), .int 0, .null])), (qu, .inr (1, [.int 0, .ref eu, .int 0]))] [] sz) (va_Qi (fun (r : Int32) (_ : Unit) => r = 1) (fun _ t => z_W D [(m0, .inr (10, [.int 1, .ref qu, .ref qs, .ref qc, .ref qp, .int 0, .int (-1), .int 0, .null])), (qu, .inr (1, [.int 0, .ref eu, .int 0]))] [] (va_A [(m0, .inr (10, [.int th, .ref qu, .ref qs, .ref qc, .ref qp, .int 0, .int (-1), .int 0, .null])), (qu, .inr (1, [.int 0, .ref eu, .int 0]))] sz) t) (va_A [(m0, .inr (10, [.int th, .ref qu, .ref qs, .ref qc, .ref qp, .int 0, .int (-1), .int 0, .null])), (qu, .inr (1, [.int 0, .ref eu, .int 0]))] sz)) 0 0 (va_A [(m0, .inr (10, [.int th, .ref qu, .ref qs, .ref qc, .ref qp, .int 0, .int (-1), .int 0, .null])), (qu, .inr (1, [.int 0, .ref eu, .int 0]))] sz) := by
  refine Met.ofW (cc := cX8_noWork) (maxL := 2) (ret := (some .boolean)) (by decide +kernel) rfl ?_
  intro p e s m args below meth c s₁ B hml hv
  obtain ⟨rfl, hsz, hP, hK, hD0, hE, hX0⟩ := hv
  have hx := B.exec
  have hb := B.bytes
  have hr := B.returns
  have hts := z_E.ts (args := [.ref m0, .int a0].toArray) hE
  have hown : s.vm.findClass RX8 = some m.cls := findClass_of_methodNamed B.named
  have hlocks := B.notSynchronized
  subst hsz
  have hD := hD0.self (sz := s.heap.size)
  generalize hAe : va_A [(m0, .inr (10, [.int th, .ref qu, .ref qs, .ref qc, .ref qp, .int 0, .int (-1), .int 0, .null])), (qu, .inr (1, [.int 0, .ref eu, .int 0]))] s.heap.size = A at hD hX0 ⊢
  have hX : z_X D A s s.heap := hX0
  have hA : ∀ q : Nat, s.heap.size ≤ q → A q := fun q h => by rw [← hAe]; exact Or.inr h
  have hS : va_S A s.heap s.heap [] := va_S.rf
  have hP : va_P D vwCl [(m0, .inr (10, [.int th, .ref qu, .ref qs, .ref qc, .ref qp, .int 0, .int (-1), .int 0, .null])), (qu, .inr (1, [.int 0, .ref eu, .int 0]))] s.heap := hP
  have hl := lv_entry ([.ref m0, .int a0]) (n := 2) (Nat.le_of_ble_eq_true rfl)
  rw [lg_entry_eq]
  generalize (lg_sl ([.ref m0, .int a0]) ++ List.replicate (2 - (lg_sl ([.ref m0, .int a0])).length) Slot.unset).toArray = ls at hl ⊢
  have hl : lv_has ls 2 [(0, .ref m0), (1, .int a0)] := hl
  skip
  refine lv_aload_n hx hb dX8_noWork_0 rfl (lv_at hl 0 rfl) ?_
  refine lv_iload_n hx hb dX8_noWork_1 rfl (lv_at hl 1 rfl) ?_
  obtain ⟨hb_1, hc_1⟩ := z_call (wc := [(m0, .inr (10, [.int th, .ref qu, .ref qs, .ref qc, .ref qp, .int 0, .int (-1), .int 0, .null])), (qu, .inr (1, [.int 0, .ref eu, .int 0]))]) (tc := []) ([.ref m0, .int a0]) hP hK hD hS hA hE hX [0, 1] rfl rfl [] rfl
  have hF_1 := va_free (wc := [(m0, .inr (10, [.int th, .ref qu, .ref qs, .ref qc, .ref qp, .int 0, .int (-1), .int 0, .null])), (qu, .inr (1, [.int 0, .ref eu, .int 0]))]) hD hS hA [0, 1] rfl
  refine va_calli (va_runV (As := [.int a0]) (rest := []) ⟨hx, hb, hml, hown, hts⟩ (f_X8_noUnit l D m0 qu qs qc qp th eu a0 _ ) (z_cV 1 hE zw_1251 zw_1253 zw_64 zw_96 zw_1254 rfl rfl rfl (by decide +kernel) ⟨(Nat.le_of_ble_eq_true rfl), (Nat.le_of_ble_eq_true rfl)⟩) ⟨hb_1, va_recv hK hP (ci := 10) (q0 := 0) rfl rfl, hc_1⟩ rfl rfl hl.1 rfl (lv_room (Nat.le_of_ble_eq_true rfl)) dX8_noWork_2 ⟨(Nat.le_of_ble_eq_true rfl), (Nat.le_of_ble_eq_true rfl)⟩) hS (fun q _ h => hF_1 q h) hF_1 (fun r_1 u_1 t_1 H1 locs ht_1 hvm_1 hw_1 hB_1 hz_1 hk_1 hS1 => ?_)
  obtain ⟨hP, hK, hD⟩ := z_back (wc := [(m0, .inr (10, [.int th, .ref qu, .ref qs, .ref qc, .ref qp, .int 0, .int (-1), .int 0, .null])), (qu, .inr (1, [.int 0, .ref eu, .int 0]))]) (wr := []) (w1 := [(m0, .inr (10, [.int 1, .ref qu, .ref qs, .ref qc, .ref qp, .int 0, .int (-1), .int 0, .null])), (qu, .inr (1, [.int 0, .ref eu, .int 0]))]) (tr := []) hP hK hD [0, 1] [] rfl rfl rfl (by decide) ht_1 hvm_1 hk_1 hF_1 [] rfl hB_1
  have hS := hS1
  have hP : va_P D vwCl [(m0, .inr (10, [.int 1, .ref qu, .ref qs, .ref qc, .ref qp, .int 0, .int (-1), .int 0, .null])), (qu, .inr (1, [.int 0, .ref eu, .int 0]))] H1 := hP
  have hD : va_D A [(m0, .inr (10, [.int 1, .ref qu, .ref qs, .ref qc, .ref qp, .int 0, .int (-1), .int 0, .null])), (qu, .inr (1, [.int 0, .ref eu, .int 0]))] := hD
  have hK : va_K D vwCl [] s := hK
  clear hS1
  obtain rfl : r_1 = 1 := hw_1
  refine lv_if_ne (tgt := 36) hx hb dX8_noWork_5 (by decide) (fun c_2 => ?_) (fun c_2 => absurd c_2 (by decide))
  refine lv_aload_n hx hb dX8_noWork_36 rfl (lv_at hl 0 rfl) ?_
  refine va_get (D := D) (ci := 10) (v := .int 1) (C := RX8) (T := TX8) (N := 9) hx hb hts zin_X8 hown hK hP 0 rfl rfl 0 (by decide) (hts _ zw_1080) (fun _ h9 => h9) rfl dX8_noWork_37 ?_
  refine lv_if_le (tgt := 47) hx hb dX8_noWork_40 (by decide) (fun c_3 => absurd c_3 (by decide)) (fun c_3 => ?_)
  refine lv_iconst (v := 1) hx hb dX8_noWork_43 (by decide) ?_
  refine lv_goto (tgt := 48) hx hb dX8_noWork_44 (by decide) ?_
  exact W.zret (v := 1) hx hb hr (by first | rfl | decide) (fun t ht hW => ⟨⟨1, (), rfl, rfl, z_end hP hK hD [0, 1] rfl rfl [] rfl ht hW.alike⟩, hS.F ht⟩) hS.2.2 dX8_noWork_48
theorem dX8_addWall_0 : decode cX8_addWall 0 = .ok (.aload_n 0, 1) := by decide +kernel
theorem dX8_addWall_1 : decode cX8_addWall 1 = .ok (.aload_n 0, 1) := by decide +kernel
theorem dX8_addWall_2 : decode cX8_addWall 2 = .ok (.iload_n 1, 1) := by decide +kernel
theorem dX8_addWall_3 : decode cX8_addWall 3 = .ok (.invokevirtual 41, 3) := by decide +kernel
theorem dX8_addWall_6 : decode cX8_addWall 6 = .ok (.ifCond .eq 11, 3) := by decide +kernel
theorem dX8_addWall_17 : decode cX8_addWall 17 = .ok (.iconst 1, 1) := by decide +kernel
theorem dX8_addWall_18 : decode cX8_addWall 18 = .ok (.goto 52, 3) := by decide +kernel
theorem dX8_addWall_70 : decode cX8_addWall 70 = .ok (.putfield 30, 3) := by decide +kernel
theorem dX8_addWall_73 : decode cX8_addWall 73 = .ok (.aload_n 0, 1) := by decide +kernel
theorem dX8_addWall_74 : decode cX8_addWall 74 = .ok (.getfield 30, 3) := by decide +kernel
theorem dX8_addWall_77 : decode cX8_addWall 77 = .ok (.ifCond .le 5, 3) := by decide +kernel
theorem dX8_addWall_80 : decode cX8_addWall 80 = .ok (.iconst 0, 1) := by decide +kernel
theorem dX8_addWall_81 : decode cX8_addWall 81 = .ok (.ireturn, 1) := by decide +kernel
set_option maxHeartbeats 4000000 in
set_option maxRecDepth 100000 in
theorem f_X8_addWall (l : Launch) (D : va_G) (m0 : Nat) (qu : Nat) (qs : Nat) (qc : Nat) (qp : Nat) (th : Int32) (eu : Nat) (a0 : Int32) (a1 : Int32) (sz : Nat)  : Met l yX8_addWall [Cond.code yX8_addWall cX8_addWall 8 (some .int)] ({ frames := 6, cells := 0, slots := 0, locals := 200 }) (z_Pc D [.ref m0, .int a0, .int a1] [(m0, .inr (10, [.int th, .ref qu, .ref qs, .ref qc, .ref qp, .int 0, .int (-1), .int 0, .null])), (qu, .inr (1, [.int 0, .ref eu, .int 0]))] [] sz) (va_Qi (fun (r : Int32) (_ : Unit) => True) (fun _ t => z_W D [(m0, .inr (10, [.int 1, .ref qu, .ref qs, .ref qc, .ref qp, .int 0, .int (-1), .int 0, .null])), (qu, .inr (1, [.int 0, .ref eu, .int 0]))] [] (va_A [(m0, .inr (10, [.int th, .ref qu, .ref qs, .ref qc, .ref qp, .int 0, .int (-1), .int 0, .null])), (qu, .inr (1, [.int 0, .ref eu, .int 0]))] sz) t) (va_A [(m0, .inr (10, [.int th, .ref qu, .ref qs, .ref qc, .ref qp, .int 0, .int (-1), .int 0, .null])), (qu, .inr (1, [.int 0, .ref eu, .int 0]))] sz)) 0 0 (va_A [(m0, .inr (10, [.int th, .ref qu, .ref qs, .ref qc, .ref qp, .int 0, .int (-1), .int 0, .null])), (qu, .inr (1, [.int 0, .ref eu, .int 0]))] sz) := by
  refine Met.ofW (cc := cX8_addWall) (maxL := 8) (ret := (some .int)) (by decide +kernel) rfl ?_
  intro p e s m args below meth c s₁ B hml hv
  obtain ⟨rfl, hsz, hP, hK, hD0, hE, hX0⟩ := hv
  have hx := B.exec
  have hb := B.bytes
  have hr := B.returns
  have hts := z_E.ts (args := [.ref m0, .int a0, .int a1].toArray) hE
  have hown : s.vm.findClass RX8 = some m.cls := findClass_of_methodNamed B.named
  have hlocks := B.notSynchronized
  subst hsz
  have hD := hD0.self (sz := s.heap.size)
  generalize hAe : va_A [(m0, .inr (10, [.int th, .ref qu, .ref qs, .ref qc, .ref qp, .int 0, .int (-1), .int 0, .null])), (qu, .inr (1, [.int 0, .ref eu, .int 0]))] s.heap.size = A at hD hX0 ⊢
  have hX : z_X D A s s.heap := hX0
  have hA : ∀ q : Nat, s.heap.size ≤ q → A q := fun q h => by rw [← hAe]; exact Or.inr h
  have hS : va_S A s.heap s.heap [] := va_S.rf
  have hP : va_P D vwCl [(m0, .inr (10, [.int th, .ref qu, .ref qs, .ref qc, .ref qp, .int 0, .int (-1), .int 0, .null])), (qu, .inr (1, [.int 0, .ref eu, .int 0]))] s.heap := hP
  have hl := lv_entry ([.ref m0, .int a0, .int a1]) (n := 8) (Nat.le_of_ble_eq_true rfl)
  rw [lg_entry_eq]
  generalize (lg_sl ([.ref m0, .int a0, .int a1]) ++ List.replicate (8 - (lg_sl ([.ref m0, .int a0, .int a1])).length) Slot.unset).toArray = ls at hl ⊢
  have hl : lv_has ls 8 [(0, .ref m0), (1, .int a0), (2, .int a1)] := hl
  skip
  refine lv_aload_n hx hb dX8_addWall_0 rfl (lv_at hl 0 rfl) ?_
  refine lv_aload_n hx hb dX8_addWall_1 rfl (lv_at hl 0 rfl) ?_
  refine lv_iload_n hx hb dX8_addWall_2 rfl (lv_at hl 1 rfl) ?_
  obtain ⟨hb_1, hc_1⟩ := z_call (wc := [(m0, .inr (10, [.int th, .ref qu, .ref qs, .ref qc, .ref qp, .int 0, .int (-1), .int 0, .null])), (qu, .inr (1, [.int 0, .ref eu, .int 0]))]) (tc := []) ([.ref m0, .int a0]) hP hK hD hS hA hE hX [0, 1] rfl rfl [] rfl
  have hF_1 := va_free (wc := [(m0, .inr (10, [.int th, .ref qu, .ref qs, .ref qc, .ref qp, .int 0, .int (-1), .int 0, .null])), (qu, .inr (1, [.int 0, .ref eu, .int 0]))]) hD hS hA [0, 1] rfl
  refine va_calli (va_runV (As := [.int a0]) (rest := [.ref m0]) ⟨hx, hb, hml, hown, hts⟩ (f_X8_isUnit l D m0 qu qs qc qp th eu a0 _ ) (z_cV 1 hE zw_1225 zw_1227 zw_62 zw_96 zw_1228 rfl rfl rfl (by decide +kernel) ⟨(Nat.le_of_ble_eq_true rfl), (Nat.le_of_ble_eq_true rfl)⟩) ⟨hb_1, va_recv hK hP (ci := 10) (q0 := 0) rfl rfl, hc_1⟩ rfl rfl hl.1 rfl (lv_room (Nat.le_of_ble_eq_true rfl)) dX8_addWall_3 ⟨(Nat.le_of_ble_eq_true rfl), (Nat.le_of_ble_eq_true rfl)⟩) hS (fun q _ h => hF_1 q h) hF_1 (fun r_1 u_1 t_1 H1 locs ht_1 hvm_1 hw_1 hB_1 hz_1 hk_1 hS1 => ?_)
  obtain ⟨hP, hK, hD⟩ := z_back (wc := [(m0, .inr (10, [.int th, .ref qu, .ref qs, .ref qc, .ref qp, .int 0, .int (-1), .int 0, .null])), (qu, .inr (1, [.int 0, .ref eu, .int 0]))]) (wr := []) (w1 := [(m0, .inr (10, [.int th, .ref qu, .ref qs, .ref qc, .ref qp, .int 0, .int (-1), .int 0, .null])), (qu, .inr (1, [.int 0, .ref eu, .int 0]))]) (tr := []) hP hK hD [0, 1] [] rfl rfl rfl (by decide) ht_1 hvm_1 hk_1 hF_1 [] rfl hB_1
  have hS := hS1
  have hP : va_P D vwCl [(m0, .inr (10, [.int th, .ref qu, .ref qs, .ref qc, .ref qp, .int 0, .int (-1), .int 0, .null])), (qu, .inr (1, [.int 0, .ref eu, .int 0]))] H1 := hP
  have hD : va_D A [(m0, .inr (10, [.int th, .ref qu, .ref qs, .ref qc, .ref qp, .int 0, .int (-1), .int 0, .null])), (qu, .inr (1, [.int 0, .ref eu, .int 0]))] := hD
  have hK : va_K D vwCl [] s := hK
  clear hS1
  obtain rfl : r_1 = 0 := hw_1
  refine lv_if_eq (tgt := 17) hx hb dX8_addWall_6 (by decide) (fun c_2 => ?_) (fun c_2 => absurd (by decide) c_2)
  refine lv_iconst (v := 1) hx hb dX8_addWall_17 (by decide) ?_
  refine lv_goto (tgt := 70) hx hb dX8_addWall_18 (by decide) ?_
  refine va_put (D := D) (ci := 10) (v := .int 1) (ty := .int) (C := RX8) (T := TX8) (N := 9) hx hb hts zin_X8 tyX8 tyX8_ok nmX8 hown hK hP hD hS 0 rfl rfl 0 (by decide) (hts _ zw_1080) (fun _ h9 => h9) rfl (by decide +kernel) rfl rfl (Nat.le_of_ble_eq_true rfl) dX8_addWall_70 (fun H locs hP hD hS => ?_)
  have hP : va_P D vwCl [(m0, .inr (10, [.int 1, .ref qu, .ref qs, .ref qc, .ref qp, .int 0, .int (-1), .int 0, .null])), (qu, .inr (1, [.int 0, .ref eu, .int 0]))] H := hP
  have hD : va_D A [(m0, .inr (10, [.int 1, .ref qu, .ref qs, .ref qc, .ref qp, .int 0, .int (-1), .int 0, .null])), (qu, .inr (1, [.int 0, .ref eu, .int 0]))] := hD
  refine lv_aload_n hx hb dX8_addWall_73 rfl (lv_at hl 0 rfl) ?_
  refine va_get (D := D) (ci := 10) (v := .int 1) (C := RX8) (T := TX8) (N := 9) hx hb hts zin_X8 hown hK hP 0 rfl rfl 0 (by decide) (hts _ zw_1080) (fun _ h9 => h9) rfl dX8_addWall_74 ?_
  refine lv_if_le (tgt := 82) hx hb dX8_addWall_77 (by decide) (fun c_3 => absurd c_3 (by decide)) (fun c_3 => ?_)
  refine lv_iconst (v := 0) hx hb dX8_addWall_80 (by decide) ?_
  exact W.iret (v := 0) hx hb hr (fun t ht hW => ⟨⟨0, (), rfl, trivial, z_end hP hK hD [0, 1] rfl rfl [] rfl ht hW.alike⟩, hS.F ht⟩) hS.2.2 dX8_addWall_81
theorem dX8_plan_0 : decode cX8_plan 0 = .ok (.aload_n 0, 1) := by decide +kernel
theorem dX8_plan_1 : decode cX8_plan 1 = .ok (.iload_n 1, 1) := by decide +kernel
theorem dX8_plan_2 : decode cX8_plan 2 = .ok (.invokevirtual 77, 3) := by decide +kernel
theorem dX8_plan_5 : decode cX8_plan 5 = .ok (.ifCond .eq 5, 3) := by decide +kernel
theorem dX8_plan_8 : decode cX8_plan 8 = .ok (.iconst 0, 1) := by decide +kernel
theorem dX8_plan_9 : decode cX8_plan 9 = .ok (.ireturn, 1) := by decide +kernel
set_option maxHeartbeats 4000000 in
set_option maxRecDepth 100000 in
theorem f_X8_plan (l : Launch) (D : va_G) (m0 : Nat) (qu : Nat) (qs : Nat) (qc : Nat) (qp : Nat) (th : Int32) (eu : Nat) (a0 : Int32) (a1 : Int32) (sz : Nat)  : Met l yX8_plan [Cond.code yX8_plan cX8_plan 7 (some .int)] ({ frames := 6, cells := 0, slots := 0, locals := 200 }) (z_Pc D [.ref m0, .int a0, .int a1] [(m0, .inr (10, [.int th, .ref qu, .ref qs, .ref qc, .ref qp, .int 0, .int (-1), .int 0, .null])), (qu, .inr (1, [.int 0, .ref eu, .int 0]))] [] sz) (va_Qi (fun (r : Int32) (_ : Unit) => True) (fun _ t => z_W D [(m0, .inr (10, [.int 1, .ref qu, .ref qs, .ref qc, .ref qp, .int 0, .int (-1), .int 0, .null])), (qu, .inr (1, [.int 0, .ref eu, .int 0]))] [] (va_A [(m0, .inr (10, [.int th, .ref qu, .ref qs, .ref qc, .ref qp, .int 0, .int (-1), .int 0, .null])), (qu, .inr (1, [.int 0, .ref eu, .int 0]))] sz) t) (va_A [(m0, .inr (10, [.int th, .ref qu, .ref qs, .ref qc, .ref qp, .int 0, .int (-1), .int 0, .null])), (qu, .inr (1, [.int 0, .ref eu, .int 0]))] sz)) 0 0 (va_A [(m0, .inr (10, [.int th, .ref qu, .ref qs, .ref qc, .ref qp, .int 0, .int (-1), .int 0, .null])), (qu, .inr (1, [.int 0, .ref eu, .int 0]))] sz) := by
  refine Met.ofW (cc := cX8_plan) (maxL := 7) (ret := (some .int)) (by decide +kernel) rfl ?_
  intro p e s m args below meth c s₁ B hml hv
  obtain ⟨rfl, hsz, hP, hK, hD0, hE, hX0⟩ := hv
  have hx := B.exec
  have hb := B.bytes
  have hr := B.returns
  have hts := z_E.ts (args := [.ref m0, .int a0, .int a1].toArray) hE
  have hown : s.vm.findClass RX8 = some m.cls := findClass_of_methodNamed B.named
  have hlocks := B.notSynchronized
  subst hsz
  have hD := hD0.self (sz := s.heap.size)
  generalize hAe : va_A [(m0, .inr (10, [.int th, .ref qu, .ref qs, .ref qc, .ref qp, .int 0, .int (-1), .int 0, .null])), (qu, .inr (1, [.int 0, .ref eu, .int 0]))] s.heap.size = A at hD hX0 ⊢
  have hX : z_X D A s s.heap := hX0
  have hA : ∀ q : Nat, s.heap.size ≤ q → A q := fun q h => by rw [← hAe]; exact Or.inr h
  have hS : va_S A s.heap s.heap [] := va_S.rf
  have hP : va_P D vwCl [(m0, .inr (10, [.int th, .ref qu, .ref qs, .ref qc, .ref qp, .int 0, .int (-1), .int 0, .null])), (qu, .inr (1, [.int 0, .ref eu, .int 0]))] s.heap := hP
  have hl := lv_entry ([.ref m0, .int a0, .int a1]) (n := 7) (Nat.le_of_ble_eq_true rfl)
  rw [lg_entry_eq]
  generalize (lg_sl ([.ref m0, .int a0, .int a1]) ++ List.replicate (7 - (lg_sl ([.ref m0, .int a0, .int a1])).length) Slot.unset).toArray = ls at hl ⊢
  have hl : lv_has ls 7 [(0, .ref m0), (1, .int a0), (2, .int a1)] := hl
  skip
  refine lv_aload_n hx hb dX8_plan_0 rfl (lv_at hl 0 rfl) ?_
  refine lv_iload_n hx hb dX8_plan_1 rfl (lv_at hl 1 rfl) ?_
  obtain ⟨hb_1, hc_1⟩ := z_call (wc := [(m0, .inr (10, [.int th, .ref qu, .ref qs, .ref qc, .ref qp, .int 0, .int (-1), .int 0, .null])), (qu, .inr (1, [.int 0, .ref eu, .int 0]))]) (tc := []) ([.ref m0, .int a0]) hP hK hD hS hA hE hX [0, 1] rfl rfl [] rfl
  have hF_1 := va_free (wc := [(m0, .inr (10, [.int th, .ref qu, .ref qs, .ref qc, .ref qp, .int 0, .int (-1), .int 0, .null])), (qu, .inr (1, [.int 0, .ref eu, .int 0]))]) hD hS hA [0, 1] rfl
  refine va_calli (va_runV (As := [.int a0]) (rest := []) ⟨hx, hb, hml, hown, hts⟩ (f_X8_noUnit l D m0 qu qs qc qp th eu a0 _ ) (z_cV 1 hE zw_1251 zw_1253 zw_64 zw_96 zw_1254 rfl rfl rfl (by decide +kernel) ⟨(Nat.le_of_ble_eq_true rfl), (Nat.le_of_ble_eq_true rfl)⟩) ⟨hb_1, va_recv hK hP (ci := 10) (q0 := 0) rfl rfl, hc_1⟩ rfl rfl hl.1 rfl (lv_room (Nat.le_of_ble_eq_true rfl)) dX8_plan_2 ⟨(Nat.le_of_ble_eq_true rfl), (Nat.le_of_ble_eq_true rfl)⟩) hS (fun q _ h => hF_1 q h) hF_1 (fun r_1 u_1 t_1 H1 locs ht_1 hvm_1 hw_1 hB_1 hz_1 hk_1 hS1 => ?_)
  obtain ⟨hP, hK, hD⟩ := z_back (wc := [(m0, .inr (10, [.int th, .ref qu, .ref qs, .ref qc, .ref qp, .int 0, .int (-1), .int 0, .null])), (qu, .inr (1, [.int 0, .ref eu, .int 0]))]) (wr := []) (w1 := [(m0, .inr (10, [.int 1, .ref qu, .ref qs, .ref qc, .ref qp, .int 0, .int (-1), .int 0, .null])), (qu, .inr (1, [.int 0, .ref eu, .int 0]))]) (tr := []) hP hK hD [0, 1] [] rfl rfl rfl (by decide) ht_1 hvm_1 hk_1 hF_1 [] rfl hB_1
  have hS := hS1
  have hP : va_P D vwCl [(m0, .inr (10, [.int 1, .ref qu, .ref qs, .ref qc, .ref qp, .int 0, .int (-1), .int 0, .null])), (qu, .inr (1, [.int 0, .ref eu, .int 0]))] H1 := hP
  have hD : va_D A [(m0, .inr (10, [.int 1, .ref qu, .ref qs, .ref qc, .ref qp, .int 0, .int (-1), .int 0, .null])), (qu, .inr (1, [.int 0, .ref eu, .int 0]))] := hD
  have hK : va_K D vwCl [] s := hK
  clear hS1
  obtain rfl : r_1 = 1 := hw_1
  refine lv_if_eq (tgt := 10) hx hb dX8_plan_5 (by decide) (fun c_2 => absurd c_2 (by decide)) (fun c_2 => ?_)
  refine lv_iconst (v := 0) hx hb dX8_plan_8 (by decide) ?_
  exact W.iret (v := 0) hx hb hr (fun t ht hW => ⟨⟨0, (), rfl, trivial, z_end hP hK hD [0, 1] rfl rfl [] rfl ht hW.alike⟩, hS.F ht⟩) hS.2.2 dX8_plan_9
theorem dX8_rest_0 : decode cX8_rest 0 = .ok (.aload_n 0, 1) := by decide +kernel
theorem dX8_rest_1 : decode cX8_rest 1 = .ok (.aload_n 0, 1) := by decide +kernel
theorem dX8_rest_2 : decode cX8_rest 2 = .ok (.iload_n 1, 1) := by decide +kernel
theorem dX8_rest_3 : decode cX8_rest 3 = .ok (.invokevirtual 41, 3) := by decide +kernel
theorem dX8_rest_6 : decode cX8_rest 6 = .ok (.ifCond .eq 11, 3) := by decide +kernel
theorem dX8_rest_17 : decode cX8_rest 17 = .ok (.iconst 1, 1) := by decide +kernel
theorem dX8_rest_18 : decode cX8_rest 18 = .ok (.goto 4, 3) := by decide +kernel
theorem dX8_rest_22 : decode cX8_rest 22 = .ok (.putfield 30, 3) := by decide +kernel
theorem dX8_rest_25 : decode cX8_rest 25 = .ok (.aload_n 0, 1) := by decide +kernel
theorem dX8_rest_26 : decode cX8_rest 26 = .ok (.getfield 30, 3) := by decide +kernel
theorem dX8_rest_29 : decode cX8_rest 29 = .ok (.ifCond .le 5, 3) := by decide +kernel
theorem dX8_rest_32 : decode cX8_rest 32 = .ok (.iconst 0, 1) := by decide +kernel
theorem dX8_rest_33 : decode cX8_rest 33 = .ok (.ireturn, 1) := by decide +kernel
set_option maxHeartbeats 4000000 in
set_option maxRecDepth 100000 in
theorem f_X8_rest (l : Launch) (D : va_G) (m0 : Nat) (qu : Nat) (qs : Nat) (qc : Nat) (qp : Nat) (th : Int32) (eu : Nat) (a0 : Int32) (a1 : Int32) (sz : Nat)  : Met l yX8_rest [Cond.code yX8_rest cX8_rest 5 (some .boolean)] ({ frames := 6, cells := 0, slots := 0, locals := 200 }) (z_Pc D [.ref m0, .int a0, .int a1] [(m0, .inr (10, [.int th, .ref qu, .ref qs, .ref qc, .ref qp, .int 0, .int (-1), .int 0, .null])), (qu, .inr (1, [.int 0, .ref eu, .int 0]))] [] sz) (va_Qi (fun (r : Int32) (_ : Unit) => True) (fun _ t => z_W D [(m0, .inr (10, [.int 1, .ref qu, .ref qs, .ref qc, .ref qp, .int 0, .int (-1), .int 0, .null])), (qu, .inr (1, [.int 0, .ref eu, .int 0]))] [] (va_A [(m0, .inr (10, [.int th, .ref qu, .ref qs, .ref qc, .ref qp, .int 0, .int (-1), .int 0, .null])), (qu, .inr (1, [.int 0, .ref eu, .int 0]))] sz) t) (va_A [(m0, .inr (10, [.int th, .ref qu, .ref qs, .ref qc, .ref qp, .int 0, .int (-1), .int 0, .null])), (qu, .inr (1, [.int 0, .ref eu, .int 0]))] sz)) 0 0 (va_A [(m0, .inr (10, [.int th, .ref qu, .ref qs, .ref qc, .ref qp, .int 0, .int (-1), .int 0, .null])), (qu, .inr (1, [.int 0, .ref eu, .int 0]))] sz) := by
  refine Met.ofW (cc := cX8_rest) (maxL := 5) (ret := (some .boolean)) (by decide +kernel) rfl ?_
  intro p e s m args below meth c s₁ B hml hv
  obtain ⟨rfl, hsz, hP, hK, hD0, hE, hX0⟩ := hv
  have hx := B.exec
  have hb := B.bytes
  have hr := B.returns
  have hts := z_E.ts (args := [.ref m0, .int a0, .int a1].toArray) hE
  have hown : s.vm.findClass RX8 = some m.cls := findClass_of_methodNamed B.named
  have hlocks := B.notSynchronized
  subst hsz
  have hD := hD0.self (sz := s.heap.size)
  generalize hAe : va_A [(m0, .inr (10, [.int th, .ref qu, .ref qs, .ref qc, .ref qp, .int 0, .int (-1), .int 0, .null])), (qu, .inr (1, [.int 0, .ref eu, .int 0]))] s.heap.size = A at hD hX0 ⊢
  have hX : z_X D A s s.heap := hX0
  have hA : ∀ q : Nat, s.heap.size ≤ q → A q := fun q h => by rw [← hAe]; exact Or.inr h
  have hS : va_S A s.heap s.heap [] := va_S.rf
  have hP : va_P D vwCl [(m0, .inr (10, [.int th, .ref qu, .ref qs, .ref qc, .ref qp, .int 0, .int (-1), .int 0, .null])), (qu, .inr (1, [.int 0, .ref eu, .int 0]))] s.heap := hP
  have hl := lv_entry ([.ref m0, .int a0, .int a1]) (n := 5) (Nat.le_of_ble_eq_true rfl)
  rw [lg_entry_eq]
  generalize (lg_sl ([.ref m0, .int a0, .int a1]) ++ List.replicate (5 - (lg_sl ([.ref m0, .int a0, .int a1])).length) Slot.unset).toArray = ls at hl ⊢
  have hl : lv_has ls 5 [(0, .ref m0), (1, .int a0), (2, .int a1)] := hl
  skip
  refine lv_aload_n hx hb dX8_rest_0 rfl (lv_at hl 0 rfl) ?_
  refine lv_aload_n hx hb dX8_rest_1 rfl (lv_at hl 0 rfl) ?_
  refine lv_iload_n hx hb dX8_rest_2 rfl (lv_at hl 1 rfl) ?_
  obtain ⟨hb_1, hc_1⟩ := z_call (wc := [(m0, .inr (10, [.int th, .ref qu, .ref qs, .ref qc, .ref qp, .int 0, .int (-1), .int 0, .null])), (qu, .inr (1, [.int 0, .ref eu, .int 0]))]) (tc := []) ([.ref m0, .int a0]) hP hK hD hS hA hE hX [0, 1] rfl rfl [] rfl
  have hF_1 := va_free (wc := [(m0, .inr (10, [.int th, .ref qu, .ref qs, .ref qc, .ref qp, .int 0, .int (-1), .int 0, .null])), (qu, .inr (1, [.int 0, .ref eu, .int 0]))]) hD hS hA [0, 1] rfl
  refine va_calli (va_runV (As := [.int a0]) (rest := [.ref m0]) ⟨hx, hb, hml, hown, hts⟩ (f_X8_isUnit l D m0 qu qs qc qp th eu a0 _ ) (z_cV 1 hE zw_1225 zw_1227 zw_62 zw_96 zw_1228 rfl rfl rfl (by decide +kernel) ⟨(Nat.le_of_ble_eq_true rfl), (Nat.le_of_ble_eq_true rfl)⟩) ⟨hb_1, va_recv hK hP (ci := 10) (q0 := 0) rfl rfl, hc_1⟩ rfl rfl hl.1 rfl (lv_room (Nat.le_of_ble_eq_true rfl)) dX8_rest_3 ⟨(Nat.le_of_ble_eq_true rfl), (Nat.le_of_ble_eq_true rfl)⟩) hS (fun q _ h => hF_1 q h) hF_1 (fun r_1 u_1 t_1 H1 locs ht_1 hvm_1 hw_1 hB_1 hz_1 hk_1 hS1 => ?_)
  obtain ⟨hP, hK, hD⟩ := z_back (wc := [(m0, .inr (10, [.int th, .ref qu, .ref qs, .ref qc, .ref qp, .int 0, .int (-1), .int 0, .null])), (qu, .inr (1, [.int 0, .ref eu, .int 0]))]) (wr := []) (w1 := [(m0, .inr (10, [.int th, .ref qu, .ref qs, .ref qc, .ref qp, .int 0, .int (-1), .int 0, .null])), (qu, .inr (1, [.int 0, .ref eu, .int 0]))]) (tr := []) hP hK hD [0, 1] [] rfl rfl rfl (by decide) ht_1 hvm_1 hk_1 hF_1 [] rfl hB_1
  have hS := hS1
  have hP : va_P D vwCl [(m0, .inr (10, [.int th, .ref qu, .ref qs, .ref qc, .ref qp, .int 0, .int (-1), .int 0, .null])), (qu, .inr (1, [.int 0, .ref eu, .int 0]))] H1 := hP
  have hD : va_D A [(m0, .inr (10, [.int th, .ref qu, .ref qs, .ref qc, .ref qp, .int 0, .int (-1), .int 0, .null])), (qu, .inr (1, [.int 0, .ref eu, .int 0]))] := hD
  have hK : va_K D vwCl [] s := hK
  clear hS1
  obtain rfl : r_1 = 0 := hw_1
  refine lv_if_eq (tgt := 17) hx hb dX8_rest_6 (by decide) (fun c_2 => ?_) (fun c_2 => absurd (by decide) c_2)
  refine lv_iconst (v := 1) hx hb dX8_rest_17 (by decide) ?_
  refine lv_goto (tgt := 22) hx hb dX8_rest_18 (by decide) ?_
  refine va_put (D := D) (ci := 10) (v := .int 1) (ty := .int) (C := RX8) (T := TX8) (N := 9) hx hb hts zin_X8 tyX8 tyX8_ok nmX8 hown hK hP hD hS 0 rfl rfl 0 (by decide) (hts _ zw_1080) (fun _ h9 => h9) rfl (by decide +kernel) rfl rfl (Nat.le_of_ble_eq_true rfl) dX8_rest_22 (fun H locs hP hD hS => ?_)
  have hP : va_P D vwCl [(m0, .inr (10, [.int 1, .ref qu, .ref qs, .ref qc, .ref qp, .int 0, .int (-1), .int 0, .null])), (qu, .inr (1, [.int 0, .ref eu, .int 0]))] H := hP
  have hD : va_D A [(m0, .inr (10, [.int 1, .ref qu, .ref qs, .ref qc, .ref qp, .int 0, .int (-1), .int 0, .null])), (qu, .inr (1, [.int 0, .ref eu, .int 0]))] := hD
  refine lv_aload_n hx hb dX8_rest_25 rfl (lv_at hl 0 rfl) ?_
  refine va_get (D := D) (ci := 10) (v := .int 1) (C := RX8) (T := TX8) (N := 9) hx hb hts zin_X8 hown hK hP 0 rfl rfl 0 (by decide) (hts _ zw_1080) (fun _ h9 => h9) rfl dX8_rest_26 ?_
  refine lv_if_le (tgt := 34) hx hb dX8_rest_29 (by decide) (fun c_3 => absurd c_3 (by decide)) (fun c_3 => ?_)
  refine lv_iconst (v := 0) hx hb dX8_rest_32 (by decide) ?_
  exact W.zret (v := 0) hx hb hr (by first | rfl | decide) (fun t ht hW => ⟨⟨0, (), rfl, trivial, z_end hP hK hD [0, 1] rfl rfl [] rfl ht hW.alike⟩, hS.F ht⟩) hS.2.2 dX8_rest_33
theorem dX8_notice_0 : decode cX8_notice 0 = .ok (.aload_n 0, 1) := by decide +kernel
theorem dX8_notice_1 : decode cX8_notice 1 = .ok (.iload_n 1, 1) := by decide +kernel
theorem dX8_notice_2 : decode cX8_notice 2 = .ok (.invokevirtual 77, 3) := by decide +kernel
theorem dX8_notice_5 : decode cX8_notice 5 = .ok (.ifCond .eq 5, 3) := by decide +kernel
theorem dX8_notice_8 : decode cX8_notice 8 = .ok (.iconst 0, 1) := by decide +kernel
theorem dX8_notice_9 : decode cX8_notice 9 = .ok (.ireturn, 1) := by decide +kernel
set_option maxHeartbeats 4000000 in
set_option maxRecDepth 100000 in
theorem f_X8_notice (l : Launch) (D : va_G) (m0 : Nat) (qu : Nat) (qs : Nat) (qc : Nat) (qp : Nat) (th : Int32) (eu : Nat) (a0 : Int32) (a1 : Int32) (sz : Nat)  : Met l yX8_notice [Cond.code yX8_notice cX8_notice 3 (some .int)] ({ frames := 6, cells := 0, slots := 0, locals := 200 }) (z_Pc D [.ref m0, .int a0, .int a1] [(m0, .inr (10, [.int th, .ref qu, .ref qs, .ref qc, .ref qp, .int 0, .int (-1), .int 0, .null])), (qu, .inr (1, [.int 0, .ref eu, .int 0]))] [] sz) (va_Qi (fun (r : Int32) (_ : Unit) => True) (fun _ t => z_W D [(m0, .inr (10, [.int 1, .ref qu, .ref qs, .ref qc, .ref qp, .int 0, .int (-1), .int 0, .null])), (qu, .inr (1, [.int 0, .ref eu, .int 0]))] [] (va_A [(m0, .inr (10, [.int th, .ref qu, .ref qs, .ref qc, .ref qp, .int 0, .int (-1), .int 0, .null])), (qu, .inr (1, [.int 0, .ref eu, .int 0]))] sz) t) (va_A [(m0, .inr (10, [.int th, .ref qu, .ref qs, .ref qc, .ref qp, .int 0, .int (-1), .int 0, .null])), (qu, .inr (1, [.int 0, .ref eu, .int 0]))] sz)) 0 0 (va_A [(m0, .inr (10, [.int th, .ref qu, .ref qs, .ref qc, .ref qp, .int 0, .int (-1), .int 0, .null])), (qu, .inr (1, [.int 0, .ref eu, .int 0]))] sz) := by
  refine Met.ofW (cc := cX8_notice) (maxL := 3) (ret := (some .int)) (by decide +kernel) rfl ?_
  intro p e s m args below meth c s₁ B hml hv
  obtain ⟨rfl, hsz, hP, hK, hD0, hE, hX0⟩ := hv
  have hx := B.exec
  have hb := B.bytes
  have hr := B.returns
  have hts := z_E.ts (args := [.ref m0, .int a0, .int a1].toArray) hE
  have hown : s.vm.findClass RX8 = some m.cls := findClass_of_methodNamed B.named
  have hlocks := B.notSynchronized
  subst hsz
  have hD := hD0.self (sz := s.heap.size)
  generalize hAe : va_A [(m0, .inr (10, [.int th, .ref qu, .ref qs, .ref qc, .ref qp, .int 0, .int (-1), .int 0, .null])), (qu, .inr (1, [.int 0, .ref eu, .int 0]))] s.heap.size = A at hD hX0 ⊢
  have hX : z_X D A s s.heap := hX0
  have hA : ∀ q : Nat, s.heap.size ≤ q → A q := fun q h => by rw [← hAe]; exact Or.inr h
  have hS : va_S A s.heap s.heap [] := va_S.rf
  have hP : va_P D vwCl [(m0, .inr (10, [.int th, .ref qu, .ref qs, .ref qc, .ref qp, .int 0, .int (-1), .int 0, .null])), (qu, .inr (1, [.int 0, .ref eu, .int 0]))] s.heap := hP
  have hl := lv_entry ([.ref m0, .int a0, .int a1]) (n := 3) (Nat.le_of_ble_eq_true rfl)
  rw [lg_entry_eq]
  generalize (lg_sl ([.ref m0, .int a0, .int a1]) ++ List.replicate (3 - (lg_sl ([.ref m0, .int a0, .int a1])).length) Slot.unset).toArray = ls at hl ⊢
  have hl : lv_has ls 3 [(0, .ref m0), (1, .int a0), (2, .int a1)] := hl
  skip
  refine lv_aload_n hx hb dX8_notice_0 rfl (lv_at hl 0 rfl) ?_
  refine lv_iload_n hx hb dX8_notice_1 rfl (lv_at hl 1 rfl) ?_
  obtain ⟨hb_1, hc_1⟩ := z_call (wc := [(m0, .inr (10, [.int th, .ref qu, .ref qs, .ref qc, .ref qp, .int 0, .int (-1), .int 0, .null])), (qu, .inr (1, [.int 0, .ref eu, .int 0]))]) (tc := []) ([.ref m0, .int a0]) hP hK hD hS hA hE hX [0, 1] rfl rfl [] rfl
  have hF_1 := va_free (wc := [(m0, .inr (10, [.int th, .ref qu, .ref qs, .ref qc, .ref qp, .int 0, .int (-1), .int 0, .null])), (qu, .inr (1, [.int 0, .ref eu, .int 0]))]) hD hS hA [0, 1] rfl
  refine va_calli (va_runV (As := [.int a0]) (rest := []) ⟨hx, hb, hml, hown, hts⟩ (f_X8_noUnit l D m0 qu qs qc qp th eu a0 _ ) (z_cV 1 hE zw_1251 zw_1253 zw_64 zw_96 zw_1254 rfl rfl rfl (by decide +kernel) ⟨(Nat.le_of_ble_eq_true rfl), (Nat.le_of_ble_eq_true rfl)⟩) ⟨hb_1, va_recv hK hP (ci := 10) (q0 := 0) rfl rfl, hc_1⟩ rfl rfl hl.1 rfl (lv_room (Nat.le_of_ble_eq_true rfl)) dX8_notice_2 ⟨(Nat.le_of_ble_eq_true rfl), (Nat.le_of_ble_eq_true rfl)⟩) hS (fun q _ h => hF_1 q h) hF_1 (fun r_1 u_1 t_1 H1 locs ht_1 hvm_1 hw_1 hB_1 hz_1 hk_1 hS1 => ?_)
  obtain ⟨hP, hK, hD⟩ := z_back (wc := [(m0, .inr (10, [.int th, .ref qu, .ref qs, .ref qc, .ref qp, .int 0, .int (-1), .int 0, .null])), (qu, .inr (1, [.int 0, .ref eu, .int 0]))]) (wr := []) (w1 := [(m0, .inr (10, [.int 1, .ref qu, .ref qs, .ref qc, .ref qp, .int 0, .int (-1), .int 0, .null])), (qu, .inr (1, [.int 0, .ref eu, .int 0]))]) (tr := []) hP hK hD [0, 1] [] rfl rfl rfl (by decide) ht_1 hvm_1 hk_1 hF_1 [] rfl hB_1
  have hS := hS1
  have hP : va_P D vwCl [(m0, .inr (10, [.int 1, .ref qu, .ref qs, .ref qc, .ref qp, .int 0, .int (-1), .int 0, .null])), (qu, .inr (1, [.int 0, .ref eu, .int 0]))] H1 := hP
  have hD : va_D A [(m0, .inr (10, [.int 1, .ref qu, .ref qs, .ref qc, .ref qp, .int 0, .int (-1), .int 0, .null])), (qu, .inr (1, [.int 0, .ref eu, .int 0]))] := hD
  have hK : va_K D vwCl [] s := hK
  clear hS1
  obtain rfl : r_1 = 1 := hw_1
  refine lv_if_eq (tgt := 10) hx hb dX8_notice_5 (by decide) (fun c_2 => absurd c_2 (by decide)) (fun c_2 => ?_)
  refine lv_iconst (v := 0) hx hb dX8_notice_8 (by decide) ?_
  exact W.iret (v := 0) hx hb hr (fun t ht hW => ⟨⟨0, (), rfl, trivial, z_end hP hK hD [0, 1] rfl rfl [] rfl ht hW.alike⟩, hS.F ht⟩) hS.2.2 dX8_notice_9
theorem dX8_work_0 : decode cX8_work 0 = .ok (.aload_n 0, 1) := by decide +kernel
theorem dX8_work_1 : decode cX8_work 1 = .ok (.iload_n 1, 1) := by decide +kernel
theorem dX8_work_2 : decode cX8_work 2 = .ok (.invokevirtual 113, 3) := by decide +kernel
theorem zw_1330 : Cond.methodLink RX8 113 yX8_noWork ∈ z_Ts := z_m 1330 (by decide +kernel) (by decide +kernel)
theorem zw_1332 : Cond.instanceMethod yX8_noWork ∈ z_Ts := z_m 1332 (by decide +kernel) (by decide +kernel)
theorem zw_66 : Cond.selects RX8 yX8_noWork yX8_noWork ∈ z_Ts := z_m 66 (by decide +kernel) (by decide +kernel)
theorem zw_1333 : Cond.code yX8_noWork cX8_noWork 2 (some .boolean) ∈ z_Ts := z_m 1333 (by decide +kernel) (by decide +kernel)
theorem dX8_work_5 : decode cX8_work 5 = .ok (.ifCond .eq 8, 3) := by decide +kernel
theorem dX8_work_8 : decode cX8_work 8 = .ok (.bipush 32, 2) := by decide +kernel
theorem dX8_work_10 : decode cX8_work 10 = .ok (.goto 17, 3) := by decide +kernel
theorem dX8_work_27 : decode cX8_work 27 = .ok (.ireturn, 1) := by decide +kernel
set_option maxHeartbeats 4000000 in
set_option maxRecDepth 100000 in
theorem f_X8_work (l : Launch) (D : va_G) (m0 : Nat) (qu : Nat) (qs : Nat) (qc : Nat) (qp : Nat) (th : Int32) (eu : Nat) (a0 : Int32) (sz : Nat)  : Met l yX8_work [Cond.code yX8_work cX8_work 2 (some .char)] ({ frames := 6, cells := 0, slots := 0, locals := 200 }) (z_Pc D [.ref m0, .int a0] [(m0, .inr (10, [.int th, .ref qu, .ref qs, .ref qc, .ref qp, .int 0, .int (-1), .int 0, .null])), (qu, .inr (1, [.int 0, .ref eu, .int 0]))] [] sz) (va_Qi (fun (r : Int32) (_ : Unit) => True) (fun _ t => z_W D [(m0, .inr (10, [.int 1, .ref qu, .ref qs, .ref qc, .ref qp, .int 0, .int (-1), .int 0, .null])), (qu, .inr (1, [.int 0, .ref eu, .int 0]))] [] (va_A [(m0, .inr (10, [.int th, .ref qu, .ref qs, .ref qc, .ref qp, .int 0, .int (-1), .int 0, .null])), (qu, .inr (1, [.int 0, .ref eu, .int 0]))] sz) t) (va_A [(m0, .inr (10, [.int th, .ref qu, .ref qs, .ref qc, .ref qp, .int 0, .int (-1), .int 0, .null])), (qu, .inr (1, [.int 0, .ref eu, .int 0]))] sz)) 0 0 (va_A [(m0, .inr (10, [.int th, .ref qu, .ref qs, .ref qc, .ref qp, .int 0, .int (-1), .int 0, .null])), (qu, .inr (1, [.int 0, .ref eu, .int 0]))] sz) := by
  refine Met.ofW (cc := cX8_work) (maxL := 2) (ret := (some .char)) (by decide +kernel) rfl ?_
  intro p e s m args below meth c s₁ B hml hv
  obtain ⟨rfl, hsz, hP, hK, hD0, hE, hX0⟩ := hv
  have hx := B.exec
  have hb := B.bytes
  have hr := B.returns
  have hts := z_E.ts (args := [.ref m0, .int a0].toArray) hE
  have hown : s.vm.findClass RX8 = some m.cls := findClass_of_methodNamed B.named
  have hlocks := B.notSynchronized
  subst hsz
  have hD := hD0.self (sz := s.heap.size)
  generalize hAe : va_A [(m0, .inr (10, [.int th, .ref qu, .ref qs, .ref qc, .ref qp, .int 0, .int (-1), .int 0, .null])), (qu, .inr (1, [.int 0, .ref eu, .int 0]))] s.heap.size = A at hD hX0 ⊢
  have hX : z_X D A s s.heap := hX0
  have hA : ∀ q : Nat, s.heap.size ≤ q → A q := fun q h => by rw [← hAe]; exact Or.inr h
  have hS : va_S A s.heap s.heap [] := va_S.rf
  have hP : va_P D vwCl [(m0, .inr (10, [.int th, .ref qu, .ref qs, .ref qc, .ref qp, .int 0, .int (-1), .int 0, .null])), (qu, .inr (1, [.int 0, .ref eu, .int 0]))] s.heap := hP
  have hl := lv_entry ([.ref m0, .int a0]) (n := 2) (Nat.le_of_ble_eq_true rfl)
  rw [lg_entry_eq]
  generalize (lg_sl ([.ref m0, .int a0]) ++ List.replicate (2 - (lg_sl ([.ref m0, .int a0])).length) Slot.unset).toArray = ls at hl ⊢
  have hl : lv_has ls 2 [(0, .ref m0), (1, .int a0)] := hl
  skip
  refine lv_aload_n hx hb dX8_work_0 rfl (lv_at hl 0 rfl) ?_
  refine lv_iload_n hx hb dX8_work_1 rfl (lv_at hl 1 rfl) ?_
  obtain ⟨hb_1, hc_1⟩ := z_call (wc := [(m0, .inr (10, [.int th, .ref qu, .ref qs, .ref qc, .ref qp, .int 0, .int (-1), .int 0, .null])), (qu, .inr (1, [.int 0, .ref eu, .int 0]))]) (tc := []) ([.ref m0, .int a0]) hP hK hD hS hA hE hX [0, 1] rfl rfl [] rfl
  have hF_1 := va_free (wc := [(m0, .inr (10, [.int th, .ref qu, .ref qs, .ref qc, .ref qp, .int 0, .int (-1), .int 0, .null])), (qu, .inr (1, [.int 0, .ref eu, .int 0]))]) hD hS hA [0, 1] rfl
  refine va_calli (va_runV (As := [.int a0]) (rest := []) ⟨hx, hb, hml, hown, hts⟩ (f_X8_noWork l D m0 qu qs qc qp th eu a0 _ ) (z_cV 1 hE zw_1330 zw_1332 zw_66 zw_96 zw_1333 rfl rfl rfl (by decide +kernel) ⟨(Nat.le_of_ble_eq_true rfl), (Nat.le_of_ble_eq_true rfl)⟩) ⟨hb_1, va_recv hK hP (ci := 10) (q0 := 0) rfl rfl, hc_1⟩ rfl rfl hl.1 rfl (lv_room (Nat.le_of_ble_eq_true rfl)) dX8_work_2 ⟨(Nat.le_of_ble_eq_true rfl), (Nat.le_of_ble_eq_true rfl)⟩) hS (fun q _ h => hF_1 q h) hF_1 (fun r_1 u_1 t_1 H1 locs ht_1 hvm_1 hw_1 hB_1 hz_1 hk_1 hS1 => ?_)
  obtain ⟨hP, hK, hD⟩ := z_back (wc := [(m0, .inr (10, [.int th, .ref qu, .ref qs, .ref qc, .ref qp, .int 0, .int (-1), .int 0, .null])), (qu, .inr (1, [.int 0, .ref eu, .int 0]))]) (wr := []) (w1 := [(m0, .inr (10, [.int 1, .ref qu, .ref qs, .ref qc, .ref qp, .int 0, .int (-1), .int 0, .null])), (qu, .inr (1, [.int 0, .ref eu, .int 0]))]) (tr := []) hP hK hD [0, 1] [] rfl rfl rfl (by decide) ht_1 hvm_1 hk_1 hF_1 [] rfl hB_1
  have hS := hS1
  have hP : va_P D vwCl [(m0, .inr (10, [.int 1, .ref qu, .ref qs, .ref qc, .ref qp, .int 0, .int (-1), .int 0, .null])), (qu, .inr (1, [.int 0, .ref eu, .int 0]))] H1 := hP
  have hD : va_D A [(m0, .inr (10, [.int 1, .ref qu, .ref qs, .ref qc, .ref qp, .int 0, .int (-1), .int 0, .null])), (qu, .inr (1, [.int 0, .ref eu, .int 0]))] := hD
  have hK : va_K D vwCl [] s := hK
  clear hS1
  obtain rfl : r_1 = 1 := hw_1
  refine lv_if_eq (tgt := 13) hx hb dX8_work_5 (by decide) (fun c_2 => absurd c_2 (by decide)) (fun c_2 => ?_)
  refine lv_bipush (v := 32) hx hb dX8_work_8 (by decide) ?_
  refine lv_goto (tgt := 27) hx hb dX8_work_10 (by decide) ?_
  exact W.zret (v := 32) hx hb hr (by first | rfl | decide) (fun t ht hW => ⟨⟨32, (), rfl, trivial, z_end hP hK hD [0, 1] rfl rfl [] rfl ht hW.alike⟩, hS.F ht⟩) hS.2.2 dX8_work_27
theorem dX8_left_0 : decode cX8_left 0 = .ok (.aload_n 0, 1) := by decide +kernel
theorem dX8_left_1 : decode cX8_left 1 = .ok (.iload_n 1, 1) := by decide +kernel
theorem dX8_left_2 : decode cX8_left 2 = .ok (.invokevirtual 113, 3) := by decide +kernel
theorem dX8_left_5 : decode cX8_left 5 = .ok (.ifCond .eq 7, 3) := by decide +kernel
theorem dX8_left_8 : decode cX8_left 8 = .ok (.iconst 0, 1) := by decide +kernel
theorem dX8_left_9 : decode cX8_left 9 = .ok (.goto 17, 3) := by decide +kernel
theorem dX8_left_26 : decode cX8_left 26 = .ok (.ireturn, 1) := by decide +kernel
set_option maxHeartbeats 4000000 in
set_option maxRecDepth 100000 in
theorem f_X8_left (l : Launch) (D : va_G) (m0 : Nat) (qu : Nat) (qs : Nat) (qc : Nat) (qp : Nat) (th : Int32) (eu : Nat) (a0 : Int32) (sz : Nat)  : Met l yX8_left [Cond.code yX8_left cX8_left 2 (some .int)] ({ frames := 6, cells := 0, slots := 0, locals := 200 }) (z_Pc D [.ref m0, .int a0] [(m0, .inr (10, [.int th, .ref qu, .ref qs, .ref qc, .ref qp, .int 0, .int (-1), .int 0, .null])), (qu, .inr (1, [.int 0, .ref eu, .int 0]))] [] sz) (va_Qi (fun (r : Int32) (_ : Unit) => True) (fun _ t => z_W D [(m0, .inr (10, [.int 1, .ref qu, .ref qs, .ref qc, .ref qp, .int 0, .int (-1), .int 0, .null])), (qu, .inr (1, [.int 0, .ref eu, .int 0]))] [] (va_A [(m0, .inr (10, [.int th, .ref qu, .ref qs, .ref qc, .ref qp, .int 0, .int (-1), .int 0, .null])), (qu, .inr (1, [.int 0, .ref eu, .int 0]))] sz) t) (va_A [(m0, .inr (10, [.int th, .ref qu, .ref qs, .ref qc, .ref qp, .int 0, .int (-1), .int 0, .null])), (qu, .inr (1, [.int 0, .ref eu, .int 0]))] sz)) 0 0 (va_A [(m0, .inr (10, [.int th, .ref qu, .ref qs, .ref qc, .ref qp, .int 0, .int (-1), .int 0, .null])), (qu, .inr (1, [.int 0, .ref eu, .int 0]))] sz) := by
  refine Met.ofW (cc := cX8_left) (maxL := 2) (ret := (some .int)) (by decide +kernel) rfl ?_
  intro p e s m args below meth c s₁ B hml hv
  obtain ⟨rfl, hsz, hP, hK, hD0, hE, hX0⟩ := hv
  have hx := B.exec
  have hb := B.bytes
  have hr := B.returns
  have hts := z_E.ts (args := [.ref m0, .int a0].toArray) hE
  have hown : s.vm.findClass RX8 = some m.cls := findClass_of_methodNamed B.named
  have hlocks := B.notSynchronized
  subst hsz
  have hD := hD0.self (sz := s.heap.size)
  generalize hAe : va_A [(m0, .inr (10, [.int th, .ref qu, .ref qs, .ref qc, .ref qp, .int 0, .int (-1), .int 0, .null])), (qu, .inr (1, [.int 0, .ref eu, .int 0]))] s.heap.size = A at hD hX0 ⊢
  have hX : z_X D A s s.heap := hX0
  have hA : ∀ q : Nat, s.heap.size ≤ q → A q := fun q h => by rw [← hAe]; exact Or.inr h
  have hS : va_S A s.heap s.heap [] := va_S.rf
  have hP : va_P D vwCl [(m0, .inr (10, [.int th, .ref qu, .ref qs, .ref qc, .ref qp, .int 0, .int (-1), .int 0, .null])), (qu, .inr (1, [.int 0, .ref eu, .int 0]))] s.heap := hP
  have hl := lv_entry ([.ref m0, .int a0]) (n := 2) (Nat.le_of_ble_eq_true rfl)
  rw [lg_entry_eq]
  generalize (lg_sl ([.ref m0, .int a0]) ++ List.replicate (2 - (lg_sl ([.ref m0, .int a0])).length) Slot.unset).toArray = ls at hl ⊢
  have hl : lv_has ls 2 [(0, .ref m0), (1, .int a0)] := hl
  skip
  refine lv_aload_n hx hb dX8_left_0 rfl (lv_at hl 0 rfl) ?_
  refine lv_iload_n hx hb dX8_left_1 rfl (lv_at hl 1 rfl) ?_
  obtain ⟨hb_1, hc_1⟩ := z_call (wc := [(m0, .inr (10, [.int th, .ref qu, .ref qs, .ref qc, .ref qp, .int 0, .int (-1), .int 0, .null])), (qu, .inr (1, [.int 0, .ref eu, .int 0]))]) (tc := []) ([.ref m0, .int a0]) hP hK hD hS hA hE hX [0, 1] rfl rfl [] rfl
  have hF_1 := va_free (wc := [(m0, .inr (10, [.int th, .ref qu, .ref qs, .ref qc, .ref qp, .int 0, .int (-1), .int 0, .null])), (qu, .inr (1, [.int 0, .ref eu, .int 0]))]) hD hS hA [0, 1] rfl
  refine va_calli (va_runV (As := [.int a0]) (rest := []) ⟨hx, hb, hml, hown, hts⟩ (f_X8_noWork l D m0 qu qs qc qp th eu a0 _ ) (z_cV 1 hE zw_1330 zw_1332 zw_66 zw_96 zw_1333 rfl rfl rfl (by decide +kernel) ⟨(Nat.le_of_ble_eq_true rfl), (Nat.le_of_ble_eq_true rfl)⟩) ⟨hb_1, va_recv hK hP (ci := 10) (q0 := 0) rfl rfl, hc_1⟩ rfl rfl hl.1 rfl (lv_room (Nat.le_of_ble_eq_true rfl)) dX8_left_2 ⟨(Nat.le_of_ble_eq_true rfl), (Nat.le_of_ble_eq_true rfl)⟩) hS (fun q _ h => hF_1 q h) hF_1 (fun r_1 u_1 t_1 H1 locs ht_1 hvm_1 hw_1 hB_1 hz_1 hk_1 hS1 => ?_)
  obtain ⟨hP, hK, hD⟩ := z_back (wc := [(m0, .inr (10, [.int th, .ref qu, .ref qs, .ref qc, .ref qp, .int 0, .int (-1), .int 0, .null])), (qu, .inr (1, [.int 0, .ref eu, .int 0]))]) (wr := []) (w1 := [(m0, .inr (10, [.int 1, .ref qu, .ref qs, .ref qc, .ref qp, .int 0, .int (-1), .int 0, .null])), (qu, .inr (1, [.int 0, .ref eu, .int 0]))]) (tr := []) hP hK hD [0, 1] [] rfl rfl rfl (by decide) ht_1 hvm_1 hk_1 hF_1 [] rfl hB_1
  have hS := hS1
  have hP : va_P D vwCl [(m0, .inr (10, [.int 1, .ref qu, .ref qs, .ref qc, .ref qp, .int 0, .int (-1), .int 0, .null])), (qu, .inr (1, [.int 0, .ref eu, .int 0]))] H1 := hP
  have hD : va_D A [(m0, .inr (10, [.int 1, .ref qu, .ref qs, .ref qc, .ref qp, .int 0, .int (-1), .int 0, .null])), (qu, .inr (1, [.int 0, .ref eu, .int 0]))] := hD
  have hK : va_K D vwCl [] s := hK
  clear hS1
  obtain rfl : r_1 = 1 := hw_1
  refine lv_if_eq (tgt := 12) hx hb dX8_left_5 (by decide) (fun c_2 => absurd c_2 (by decide)) (fun c_2 => ?_)
  refine lv_iconst (v := 0) hx hb dX8_left_8 (by decide) ?_
  refine lv_goto (tgt := 26) hx hb dX8_left_9 (by decide) ?_
  exact W.iret (v := 0) hx hb hr (fun t ht hW => ⟨⟨0, (), rfl, trivial, z_end hP hK hD [0, 1] rfl rfl [] rfl ht hW.alike⟩, hS.F ht⟩) hS.2.2 dX8_left_26
theorem dX8_whyNot_0 : decode cX8_whyNot 0 = .ok (.aload_n 0, 1) := by decide +kernel
theorem dX8_whyNot_1 : decode cX8_whyNot 1 = .ok (.iload_n 1, 1) := by decide +kernel
theorem dX8_whyNot_2 : decode cX8_whyNot 2 = .ok (.invokevirtual 113, 3) := by decide +kernel
theorem dX8_whyNot_5 : decode cX8_whyNot 5 = .ok (.ifCond .eq 8, 3) := by decide +kernel
theorem dX8_whyNot_8 : decode cX8_whyNot 8 = .ok (.bipush 32, 2) := by decide +kernel
theorem dX8_whyNot_10 : decode cX8_whyNot 10 = .ok (.goto 8, 3) := by decide +kernel
theorem dX8_whyNot_18 : decode cX8_whyNot 18 = .ok (.ireturn, 1) := by decide +kernel
set_option maxHeartbeats 4000000 in
set_option maxRecDepth 100000 in
theorem f_X8_whyNot (l : Launch) (D : va_G) (m0 : Nat) (qu : Nat) (qs : Nat) (qc : Nat) (qp : Nat) (th : Int32) (eu : Nat) (a0 : Int32) (sz : Nat)  : Met l yX8_whyNot [Cond.code yX8_whyNot cX8_whyNot 2 (some .char)] ({ frames := 6, cells := 0, slots := 0, locals := 200 }) (z_Pc D [.ref m0, .int a0] [(m0, .inr (10, [.int th, .ref qu, .ref qs, .ref qc, .ref qp, .int 0, .int (-1), .int 0, .null])), (qu, .inr (1, [.int 0, .ref eu, .int 0]))] [] sz) (va_Qi (fun (r : Int32) (_ : Unit) => True) (fun _ t => z_W D [(m0, .inr (10, [.int 1, .ref qu, .ref qs, .ref qc, .ref qp, .int 0, .int (-1), .int 0, .null])), (qu, .inr (1, [.int 0, .ref eu, .int 0]))] [] (va_A [(m0, .inr (10, [.int th, .ref qu, .ref qs, .ref qc, .ref qp, .int 0, .int (-1), .int 0, .null])), (qu, .inr (1, [.int 0, .ref eu, .int 0]))] sz) t) (va_A [(m0, .inr (10, [.int th, .ref qu, .ref qs, .ref qc, .ref qp, .int 0, .int (-1), .int 0, .null])), (qu, .inr (1, [.int 0, .ref eu, .int 0]))] sz)) 0 0 (va_A [(m0, .inr (10, [.int th, .ref qu, .ref qs, .ref qc, .ref qp, .int 0, .int (-1), .int 0, .null])), (qu, .inr (1, [.int 0, .ref eu, .int 0]))] sz) := by
  refine Met.ofW (cc := cX8_whyNot) (maxL := 2) (ret := (some .char)) (by decide +kernel) rfl ?_
  intro p e s m args below meth c s₁ B hml hv
  obtain ⟨rfl, hsz, hP, hK, hD0, hE, hX0⟩ := hv
  have hx := B.exec
  have hb := B.bytes
  have hr := B.returns
  have hts := z_E.ts (args := [.ref m0, .int a0].toArray) hE
  have hown : s.vm.findClass RX8 = some m.cls := findClass_of_methodNamed B.named
  have hlocks := B.notSynchronized
  subst hsz
  have hD := hD0.self (sz := s.heap.size)
  generalize hAe : va_A [(m0, .inr (10, [.int th, .ref qu, .ref qs, .ref qc, .ref qp, .int 0, .int (-1), .int 0, .null])), (qu, .inr (1, [.int 0, .ref eu, .int 0]))] s.heap.size = A at hD hX0 ⊢
  have hX : z_X D A s s.heap := hX0
  have hA : ∀ q : Nat, s.heap.size ≤ q → A q := fun q h => by rw [← hAe]; exact Or.inr h
  have hS : va_S A s.heap s.heap [] := va_S.rf
  have hP : va_P D vwCl [(m0, .inr (10, [.int th, .ref qu, .ref qs, .ref qc, .ref qp, .int 0, .int (-1), .int 0, .null])), (qu, .inr (1, [.int 0, .ref eu, .int 0]))] s.heap := hP
  have hl := lv_entry ([.ref m0, .int a0]) (n := 2) (Nat.le_of_ble_eq_true rfl)
  rw [lg_entry_eq]
  generalize (lg_sl ([.ref m0, .int a0]) ++ List.replicate (2 - (lg_sl ([.ref m0, .int a0])).length) Slot.unset).toArray = ls at hl ⊢
  have hl : lv_has ls 2 [(0, .ref m0), (1, .int a0)] := hl
  skip
  refine lv_aload_n hx hb dX8_whyNot_0 rfl (lv_at hl 0 rfl) ?_
  refine lv_iload_n hx hb dX8_whyNot_1 rfl (lv_at hl 1 rfl) ?_
  obtain ⟨hb_1, hc_1⟩ := z_call (wc := [(m0, .inr (10, [.int th, .ref qu, .ref qs, .ref qc, .ref qp, .int 0, .int (-1), .int 0, .null])), (qu, .inr (1, [.int 0, .ref eu, .int 0]))]) (tc := []) ([.ref m0, .int a0]) hP hK hD hS hA hE hX [0, 1] rfl rfl [] rfl
  have hF_1 := va_free (wc := [(m0, .inr (10, [.int th, .ref qu, .ref qs, .ref qc, .ref qp, .int 0, .int (-1), .int 0, .null])), (qu, .inr (1, [.int 0, .ref eu, .int 0]))]) hD hS hA [0, 1] rfl
  refine va_calli (va_runV (As := [.int a0]) (rest := []) ⟨hx, hb, hml, hown, hts⟩ (f_X8_noWork l D m0 qu qs qc qp th eu a0 _ ) (z_cV 1 hE zw_1330 zw_1332 zw_66 zw_96 zw_1333 rfl rfl rfl (by decide +kernel) ⟨(Nat.le_of_ble_eq_true rfl), (Nat.le_of_ble_eq_true rfl)⟩) ⟨hb_1, va_recv hK hP (ci := 10) (q0 := 0) rfl rfl, hc_1⟩ rfl rfl hl.1 rfl (lv_room (Nat.le_of_ble_eq_true rfl)) dX8_whyNot_2 ⟨(Nat.le_of_ble_eq_true rfl), (Nat.le_of_ble_eq_true rfl)⟩) hS (fun q _ h => hF_1 q h) hF_1 (fun r_1 u_1 t_1 H1 locs ht_1 hvm_1 hw_1 hB_1 hz_1 hk_1 hS1 => ?_)
  obtain ⟨hP, hK, hD⟩ := z_back (wc := [(m0, .inr (10, [.int th, .ref qu, .ref qs, .ref qc, .ref qp, .int 0, .int (-1), .int 0, .null])), (qu, .inr (1, [.int 0, .ref eu, .int 0]))]) (wr := []) (w1 := [(m0, .inr (10, [.int 1, .ref qu, .ref qs, .ref qc, .ref qp, .int 0, .int (-1), .int 0, .null])), (qu, .inr (1, [.int 0, .ref eu, .int 0]))]) (tr := []) hP hK hD [0, 1] [] rfl rfl rfl (by decide) ht_1 hvm_1 hk_1 hF_1 [] rfl hB_1
  have hS := hS1
  have hP : va_P D vwCl [(m0, .inr (10, [.int 1, .ref qu, .ref qs, .ref qc, .ref qp, .int 0, .int (-1), .int 0, .null])), (qu, .inr (1, [.int 0, .ref eu, .int 0]))] H1 := hP
  have hD : va_D A [(m0, .inr (10, [.int 1, .ref qu, .ref qs, .ref qc, .ref qp, .int 0, .int (-1), .int 0, .null])), (qu, .inr (1, [.int 0, .ref eu, .int 0]))] := hD
  have hK : va_K D vwCl [] s := hK
  clear hS1
  obtain rfl : r_1 = 1 := hw_1
  refine lv_if_eq (tgt := 13) hx hb dX8_whyNot_5 (by decide) (fun c_2 => absurd c_2 (by decide)) (fun c_2 => ?_)
  refine lv_bipush (v := 32) hx hb dX8_whyNot_8 (by decide) ?_
  refine lv_goto (tgt := 18) hx hb dX8_whyNot_10 (by decide) ?_
  exact W.zret (v := 32) hx hb hr (by first | rfl | decide) (fun t ht hW => ⟨⟨32, (), rfl, trivial, z_end hP hK hD [0, 1] rfl rfl [] rfl ht hW.alike⟩, hS.F ht⟩) hS.2.2 dX8_whyNot_18
theorem dX8_begin_0 : decode cX8_begin 0 = .ok (.aload_n 0, 1) := by decide +kernel
theorem dX8_begin_1 : decode cX8_begin 1 = .ok (.iload_n 1, 1) := by decide +kernel
theorem dX8_begin_2 : decode cX8_begin 2 = .ok (.invokevirtual 77, 3) := by decide +kernel
theorem dX8_begin_5 : decode cX8_begin 5 = .ok (.ifCond .eq 5, 3) := by decide +kernel
theorem dX8_begin_8 : decode cX8_begin 8 = .ok (.iconst 0, 1) := by decide +kernel
theorem dX8_begin_9 : decode cX8_begin 9 = .ok (.ireturn, 1) := by decide +kernel
set_option maxHeartbeats 4000000 in
set_option maxRecDepth 100000 in
theorem f_X8_begin (l : Launch) (D : va_G) (m0 : Nat) (qu : Nat) (qs : Nat) (qc : Nat) (qp : Nat) (th : Int32) (eu : Nat) (a0 : Int32) (sz : Nat)  : Met l yX8_begin [Cond.code yX8_begin cX8_begin 4 (some .int)] ({ frames := 6, cells := 0, slots := 0, locals := 200 }) (z_Pc D [.ref m0, .int a0] [(m0, .inr (10, [.int th, .ref qu, .ref qs, .ref qc, .ref qp, .int 0, .int (-1), .int 0, .null])), (qu, .inr (1, [.int 0, .ref eu, .int 0]))] [] sz) (va_Qi (fun (r : Int32) (_ : Unit) => True) (fun _ t => z_W D [(m0, .inr (10, [.int 1, .ref qu, .ref qs, .ref qc, .ref qp, .int 0, .int (-1), .int 0, .null])), (qu, .inr (1, [.int 0, .ref eu, .int 0]))] [] (va_A [(m0, .inr (10, [.int th, .ref qu, .ref qs, .ref qc, .ref qp, .int 0, .int (-1), .int 0, .null])), (qu, .inr (1, [.int 0, .ref eu, .int 0]))] sz) t) (va_A [(m0, .inr (10, [.int th, .ref qu, .ref qs, .ref qc, .ref qp, .int 0, .int (-1), .int 0, .null])), (qu, .inr (1, [.int 0, .ref eu, .int 0]))] sz)) 0 0 (va_A [(m0, .inr (10, [.int th, .ref qu, .ref qs, .ref qc, .ref qp, .int 0, .int (-1), .int 0, .null])), (qu, .inr (1, [.int 0, .ref eu, .int 0]))] sz) := by
  refine Met.ofW (cc := cX8_begin) (maxL := 4) (ret := (some .int)) (by decide +kernel) rfl ?_
  intro p e s m args below meth c s₁ B hml hv
  obtain ⟨rfl, hsz, hP, hK, hD0, hE, hX0⟩ := hv
  have hx := B.exec
  have hb := B.bytes
  have hr := B.returns
  have hts := z_E.ts (args := [.ref m0, .int a0].toArray) hE
  have hown : s.vm.findClass RX8 = some m.cls := findClass_of_methodNamed B.named
  have hlocks := B.notSynchronized
  subst hsz
  have hD := hD0.self (sz := s.heap.size)
  generalize hAe : va_A [(m0, .inr (10, [.int th, .ref qu, .ref qs, .ref qc, .ref qp, .int 0, .int (-1), .int 0, .null])), (qu, .inr (1, [.int 0, .ref eu, .int 0]))] s.heap.size = A at hD hX0 ⊢
  have hX : z_X D A s s.heap := hX0
  have hA : ∀ q : Nat, s.heap.size ≤ q → A q := fun q h => by rw [← hAe]; exact Or.inr h
  have hS : va_S A s.heap s.heap [] := va_S.rf
  have hP : va_P D vwCl [(m0, .inr (10, [.int th, .ref qu, .ref qs, .ref qc, .ref qp, .int 0, .int (-1), .int 0, .null])), (qu, .inr (1, [.int 0, .ref eu, .int 0]))] s.heap := hP
  have hl := lv_entry ([.ref m0, .int a0]) (n := 4) (Nat.le_of_ble_eq_true rfl)
  rw [lg_entry_eq]
  generalize (lg_sl ([.ref m0, .int a0]) ++ List.replicate (4 - (lg_sl ([.ref m0, .int a0])).length) Slot.unset).toArray = ls at hl ⊢
  have hl : lv_has ls 4 [(0, .ref m0), (1, .int a0)] := hl
  skip
  refine lv_aload_n hx hb dX8_begin_0 rfl (lv_at hl 0 rfl) ?_
  refine lv_iload_n hx hb dX8_begin_1 rfl (lv_at hl 1 rfl) ?_
  obtain ⟨hb_1, hc_1⟩ := z_call (wc := [(m0, .inr (10, [.int th, .ref qu, .ref qs, .ref qc, .ref qp, .int 0, .int (-1), .int 0, .null])), (qu, .inr (1, [.int 0, .ref eu, .int 0]))]) (tc := []) ([.ref m0, .int a0]) hP hK hD hS hA hE hX [0, 1] rfl rfl [] rfl
  have hF_1 := va_free (wc := [(m0, .inr (10, [.int th, .ref qu, .ref qs, .ref qc, .ref qp, .int 0, .int (-1), .int 0, .null])), (qu, .inr (1, [.int 0, .ref eu, .int 0]))]) hD hS hA [0, 1] rfl
  refine va_calli (va_runV (As := [.int a0]) (rest := []) ⟨hx, hb, hml, hown, hts⟩ (f_X8_noUnit l D m0 qu qs qc qp th eu a0 _ ) (z_cV 1 hE zw_1251 zw_1253 zw_64 zw_96 zw_1254 rfl rfl rfl (by decide +kernel) ⟨(Nat.le_of_ble_eq_true rfl), (Nat.le_of_ble_eq_true rfl)⟩) ⟨hb_1, va_recv hK hP (ci := 10) (q0 := 0) rfl rfl, hc_1⟩ rfl rfl hl.1 rfl (lv_room (Nat.le_of_ble_eq_true rfl)) dX8_begin_2 ⟨(Nat.le_of_ble_eq_true rfl), (Nat.le_of_ble_eq_true rfl)⟩) hS (fun q _ h => hF_1 q h) hF_1 (fun r_1 u_1 t_1 H1 locs ht_1 hvm_1 hw_1 hB_1 hz_1 hk_1 hS1 => ?_)
  obtain ⟨hP, hK, hD⟩ := z_back (wc := [(m0, .inr (10, [.int th, .ref qu, .ref qs, .ref qc, .ref qp, .int 0, .int (-1), .int 0, .null])), (qu, .inr (1, [.int 0, .ref eu, .int 0]))]) (wr := []) (w1 := [(m0, .inr (10, [.int 1, .ref qu, .ref qs, .ref qc, .ref qp, .int 0, .int (-1), .int 0, .null])), (qu, .inr (1, [.int 0, .ref eu, .int 0]))]) (tr := []) hP hK hD [0, 1] [] rfl rfl rfl (by decide) ht_1 hvm_1 hk_1 hF_1 [] rfl hB_1
  have hS := hS1
  have hP : va_P D vwCl [(m0, .inr (10, [.int 1, .ref qu, .ref qs, .ref qc, .ref qp, .int 0, .int (-1), .int 0, .null])), (qu, .inr (1, [.int 0, .ref eu, .int 0]))] H1 := hP
  have hD : va_D A [(m0, .inr (10, [.int 1, .ref qu, .ref qs, .ref qc, .ref qp, .int 0, .int (-1), .int 0, .null])), (qu, .inr (1, [.int 0, .ref eu, .int 0]))] := hD
  have hK : va_K D vwCl [] s := hK
  clear hS1
  obtain rfl : r_1 = 1 := hw_1
  refine lv_if_eq (tgt := 10) hx hb dX8_begin_5 (by decide) (fun c_2 => absurd c_2 (by decide)) (fun c_2 => ?_)
  refine lv_iconst (v := 0) hx hb dX8_begin_8 (by decide) ?_
  exact W.iret (v := 0) hx hb hr (fun t ht hW => ⟨⟨0, (), rfl, trivial, z_end hP hK hD [0, 1] rfl rfl [] rfl ht hW.alike⟩, hS.F ht⟩) hS.2.2 dX8_begin_9
theorem dX8_find_0 : decode cX8_find 0 = .ok (.aload_n 0, 1) := by decide +kernel
theorem dX8_find_1 : decode cX8_find 1 = .ok (.iload_n 1, 1) := by decide +kernel
theorem dX8_find_2 : decode cX8_find 2 = .ok (.invokevirtual 77, 3) := by decide +kernel
theorem dX8_find_5 : decode cX8_find 5 = .ok (.ifCond .eq 5, 3) := by decide +kernel
theorem dX8_find_8 : decode cX8_find 8 = .ok (.iconst 0, 1) := by decide +kernel
theorem dX8_find_9 : decode cX8_find 9 = .ok (.ireturn, 1) := by decide +kernel
set_option maxHeartbeats 4000000 in
set_option maxRecDepth 100000 in
theorem f_X8_find (l : Launch) (D : va_G) (m0 : Nat) (qu : Nat) (qs : Nat) (qc : Nat) (qp : Nat) (th : Int32) (eu : Nat) (a0 : Int32) (a1 : Int32) (sz : Nat)  : Met l yX8_find [Cond.code yX8_find cX8_find 3 (some .int)] ({ frames := 6, cells := 0, slots := 0, locals := 200 }) (z_Pc D [.ref m0, .int a0, .int a1] [(m0, .inr (10, [.int th, .ref qu, .ref qs, .ref qc, .ref qp, .int 0, .int (-1), .int 0, .null])), (qu, .inr (1, [.int 0, .ref eu, .int 0]))] [] sz) (va_Qi (fun (r : Int32) (_ : Unit) => True) (fun _ t => z_W D [(m0, .inr (10, [.int 1, .ref qu, .ref qs, .ref qc, .ref qp, .int 0, .int (-1), .int 0, .null])), (qu, .inr (1, [.int 0, .ref eu, .int 0]))] [] (va_A [(m0, .inr (10, [.int th, .ref qu, .ref qs, .ref qc, .ref qp, .int 0, .int (-1), .int 0, .null])), (qu, .inr (1, [.int 0, .ref eu, .int 0]))] sz) t) (va_A [(m0, .inr (10, [.int th, .ref qu, .ref qs, .ref qc, .ref qp, .int 0, .int (-1), .int 0, .null])), (qu, .inr (1, [.int 0, .ref eu, .int 0]))] sz)) 0 0 (va_A [(m0, .inr (10, [.int th, .ref qu, .ref qs, .ref qc, .ref qp, .int 0, .int (-1), .int 0, .null])), (qu, .inr (1, [.int 0, .ref eu, .int 0]))] sz) := by
  refine Met.ofW (cc := cX8_find) (maxL := 3) (ret := (some .int)) (by decide +kernel) rfl ?_
  intro p e s m args below meth c s₁ B hml hv
  obtain ⟨rfl, hsz, hP, hK, hD0, hE, hX0⟩ := hv
  have hx := B.exec
  have hb := B.bytes
  have hr := B.returns
  have hts := z_E.ts (args := [.ref m0, .int a0, .int a1].toArray) hE
  have hown : s.vm.findClass RX8 = some m.cls := findClass_of_methodNamed B.named
  have hlocks := B.notSynchronized
  subst hsz
  have hD := hD0.self (sz := s.heap.size)
  generalize hAe : va_A [(m0, .inr (10, [.int th, .ref qu, .ref qs, .ref qc, .ref qp, .int 0, .int (-1), .int 0, .null])), (qu, .inr (1, [.int 0, .ref eu, .int 0]))] s.heap.size = A at hD hX0 ⊢
  have hX : z_X D A s s.heap := hX0
  have hA : ∀ q : Nat, s.heap.size ≤ q → A q := fun q h => by rw [← hAe]; exact Or.inr h
  have hS : va_S A s.heap s.heap [] := va_S.rf
  have hP : va_P D vwCl [(m0, .inr (10, [.int th, .ref qu, .ref qs, .ref qc, .ref qp, .int 0, .int (-1), .int 0, .null])), (qu, .inr (1, [.int 0, .ref eu, .int 0]))] s.heap := hP
  have hl := lv_entry ([.ref m0, .int a0, .int a1]) (n := 3) (Nat.le_of_ble_eq_true rfl)
  rw [lg_entry_eq]
  generalize (lg_sl ([.ref m0, .int a0, .int a1]) ++ List.replicate (3 - (lg_sl ([.ref m0, .int a0, .int a1])).length) Slot.unset).toArray = ls at hl ⊢
  have hl : lv_has ls 3 [(0, .ref m0), (1, .int a0), (2, .int a1)] := hl
  skip
  refine lv_aload_n hx hb dX8_find_0 rfl (lv_at hl 0 rfl) ?_
  refine lv_iload_n hx hb dX8_find_1 rfl (lv_at hl 1 rfl) ?_
  obtain ⟨hb_1, hc_1⟩ := z_call (wc := [(m0, .inr (10, [.int th, .ref qu, .ref qs, .ref qc, .ref qp, .int 0, .int (-1), .int 0, .null])), (qu, .inr (1, [.int 0, .ref eu, .int 0]))]) (tc := []) ([.ref m0, .int a0]) hP hK hD hS hA hE hX [0, 1] rfl rfl [] rfl
  have hF_1 := va_free (wc := [(m0, .inr (10, [.int th, .ref qu, .ref qs, .ref qc, .ref qp, .int 0, .int (-1), .int 0, .null])), (qu, .inr (1, [.int 0, .ref eu, .int 0]))]) hD hS hA [0, 1] rfl
  refine va_calli (va_runV (As := [.int a0]) (rest := []) ⟨hx, hb, hml, hown, hts⟩ (f_X8_noUnit l D m0 qu qs qc qp th eu a0 _ ) (z_cV 1 hE zw_1251 zw_1253 zw_64 zw_96 zw_1254 rfl rfl rfl (by decide +kernel) ⟨(Nat.le_of_ble_eq_true rfl), (Nat.le_of_ble_eq_true rfl)⟩) ⟨hb_1, va_recv hK hP (ci := 10) (q0 := 0) rfl rfl, hc_1⟩ rfl rfl hl.1 rfl (lv_room (Nat.le_of_ble_eq_true rfl)) dX8_find_2 ⟨(Nat.le_of_ble_eq_true rfl), (Nat.le_of_ble_eq_true rfl)⟩) hS (fun q _ h => hF_1 q h) hF_1 (fun r_1 u_1 t_1 H1 locs ht_1 hvm_1 hw_1 hB_1 hz_1 hk_1 hS1 => ?_)
  obtain ⟨hP, hK, hD⟩ := z_back (wc := [(m0, .inr (10, [.int th, .ref qu, .ref qs, .ref qc, .ref qp, .int 0, .int (-1), .int 0, .null])), (qu, .inr (1, [.int 0, .ref eu, .int 0]))]) (wr := []) (w1 := [(m0, .inr (10, [.int 1, .ref qu, .ref qs, .ref qc, .ref qp, .int 0, .int (-1), .int 0, .null])), (qu, .inr (1, [.int 0, .ref eu, .int 0]))]) (tr := []) hP hK hD [0, 1] [] rfl rfl rfl (by decide) ht_1 hvm_1 hk_1 hF_1 [] rfl hB_1
  have hS := hS1
  have hP : va_P D vwCl [(m0, .inr (10, [.int 1, .ref qu, .ref qs, .ref qc, .ref qp, .int 0, .int (-1), .int 0, .null])), (qu, .inr (1, [.int 0, .ref eu, .int 0]))] H1 := hP
  have hD : va_D A [(m0, .inr (10, [.int 1, .ref qu, .ref qs, .ref qc, .ref qp, .int 0, .int (-1), .int 0, .null])), (qu, .inr (1, [.int 0, .ref eu, .int 0]))] := hD
  have hK : va_K D vwCl [] s := hK
  clear hS1
  obtain rfl : r_1 = 1 := hw_1
  refine lv_if_eq (tgt := 10) hx hb dX8_find_5 (by decide) (fun c_2 => absurd c_2 (by decide)) (fun c_2 => ?_)
  refine lv_iconst (v := 0) hx hb dX8_find_8 (by decide) ?_
  exact W.iret (v := 0) hx hb hr (fun t ht hW => ⟨⟨0, (), rfl, trivial, z_end hP hK hD [0, 1] rfl rfl [] rfl ht hW.alike⟩, hS.F ht⟩) hS.2.2 dX8_find_9
theorem dX8_addShop_0 : decode cX8_addShop 0 = .ok (.aload_n 0, 1) := by decide +kernel
theorem dX8_addShop_1 : decode cX8_addShop 1 = .ok (.iload_n 1, 1) := by decide +kernel
theorem dX8_addShop_2 : decode cX8_addShop 2 = .ok (.invokevirtual 77, 3) := by decide +kernel
theorem dX8_addShop_5 : decode cX8_addShop 5 = .ok (.ifCond .eq 5, 3) := by decide +kernel
theorem dX8_addShop_8 : decode cX8_addShop 8 = .ok (.iconst 0, 1) := by decide +kernel
theorem dX8_addShop_9 : decode cX8_addShop 9 = .ok (.ireturn, 1) := by decide +kernel
set_option maxHeartbeats 4000000 in
set_option maxRecDepth 100000 in
theorem f_X8_addShop (l : Launch) (D : va_G) (m0 : Nat) (qu : Nat) (qs : Nat) (qc : Nat) (qp : Nat) (th : Int32) (eu : Nat) (a0 : Int32) (a1 : Int32) (a2 : Int32) (a3 : Int32) (a4 : Int32) (a5 : Int32) (sz : Nat)  : Met l yX8_addShop [Cond.code yX8_addShop cX8_addShop 10 (some .int)] ({ frames := 6, cells := 0, slots := 0, locals := 200 }) (z_Pc D [.ref m0, .int a0, .int a1, .int a2, .int a3, .int a4, .int a5] [(m0, .inr (10, [.int th, .ref qu, .ref qs, .ref qc, .ref qp, .int 0, .int (-1), .int 0, .null])), (qu, .inr (1, [.int 0, .ref eu, .int 0]))] [] sz) (va_Qi (fun (r : Int32) (_ : Unit) => True) (fun _ t => z_W D [(m0, .inr (10, [.int 1, .ref qu, .ref qs, .ref qc, .ref qp, .int 0, .int (-1), .int 0, .null])), (qu, .inr (1, [.int 0, .ref eu, .int 0]))] [] (va_A [(m0, .inr (10, [.int th, .ref qu, .ref qs, .ref qc, .ref qp, .int 0, .int (-1), .int 0, .null])), (qu, .inr (1, [.int 0, .ref eu, .int 0]))] sz) t) (va_A [(m0, .inr (10, [.int th, .ref qu, .ref qs, .ref qc, .ref qp, .int 0, .int (-1), .int 0, .null])), (qu, .inr (1, [.int 0, .ref eu, .int 0]))] sz)) 0 0 (va_A [(m0, .inr (10, [.int th, .ref qu, .ref qs, .ref qc, .ref qp, .int 0, .int (-1), .int 0, .null])), (qu, .inr (1, [.int 0, .ref eu, .int 0]))] sz) := by
  refine Met.ofW (cc := cX8_addShop) (maxL := 10) (ret := (some .int)) (by decide +kernel) rfl ?_
  intro p e s m args below meth c s₁ B hml hv
  obtain ⟨rfl, hsz, hP, hK, hD0, hE, hX0⟩ := hv
  have hx := B.exec
  have hb := B.bytes
  have hr := B.returns
  have hts := z_E.ts (args := [.ref m0, .int a0, .int a1, .int a2, .int a3, .int a4, .int a5].toArray) hE
  have hown : s.vm.findClass RX8 = some m.cls := findClass_of_methodNamed B.named
  have hlocks := B.notSynchronized
  subst hsz
  have hD := hD0.self (sz := s.heap.size)
  generalize hAe : va_A [(m0, .inr (10, [.int th, .ref qu, .ref qs, .ref qc, .ref qp, .int 0, .int (-1), .int 0, .null])), (qu, .inr (1, [.int 0, .ref eu, .int 0]))] s.heap.size = A at hD hX0 ⊢
  have hX : z_X D A s s.heap := hX0
  have hA : ∀ q : Nat, s.heap.size ≤ q → A q := fun q h => by rw [← hAe]; exact Or.inr h
  have hS : va_S A s.heap s.heap [] := va_S.rf
  have hP : va_P D vwCl [(m0, .inr (10, [.int th, .ref qu, .ref qs, .ref qc, .ref qp, .int 0, .int (-1), .int 0, .null])), (qu, .inr (1, [.int 0, .ref eu, .int 0]))] s.heap := hP
  have hl := lv_entry ([.ref m0, .int a0, .int a1, .int a2, .int a3, .int a4, .int a5]) (n := 10) (Nat.le_of_ble_eq_true rfl)
  rw [lg_entry_eq]
  generalize (lg_sl ([.ref m0, .int a0, .int a1, .int a2, .int a3, .int a4, .int a5]) ++ List.replicate (10 - (lg_sl ([.ref m0, .int a0, .int a1, .int a2, .int a3, .int a4, .int a5])).length) Slot.unset).toArray = ls at hl ⊢
  have hl : lv_has ls 10 [(0, .ref m0), (1, .int a0), (2, .int a1), (3, .int a2), (4, .int a3), (5, .int a4), (6, .int a5)] := hl
  skip
  refine lv_aload_n hx hb dX8_addShop_0 rfl (lv_at hl 0 rfl) ?_
  refine lv_iload_n hx hb dX8_addShop_1 rfl (lv_at hl 1 rfl) ?_
  obtain ⟨hb_1, hc_1⟩ := z_call (wc := [(m0, .inr (10, [.int th, .ref qu, .ref qs, .ref qc, .ref qp, .int 0, .int (-1), .int 0, .null])), (qu, .inr (1, [.int 0, .ref eu, .int 0]))]) (tc := []) ([.ref m0, .int a0]) hP hK hD hS hA hE hX [0, 1] rfl rfl [] rfl
  have hF_1 := va_free (wc := [(m0, .inr (10, [.int th, .ref qu, .ref qs, .ref qc, .ref qp, .int 0, .int (-1), .int 0, .null])), (qu, .inr (1, [.int 0, .ref eu, .int 0]))]) hD hS hA [0, 1] rfl
  refine va_calli (va_runV (As := [.int a0]) (rest := []) ⟨hx, hb, hml, hown, hts⟩ (f_X8_noUnit l D m0 qu qs qc qp th eu a0 _ ) (z_cV 1 hE zw_1251 zw_1253 zw_64 zw_96 zw_1254 rfl rfl rfl (by decide +kernel) ⟨(Nat.le_of_ble_eq_true rfl), (Nat.le_of_ble_eq_true rfl)⟩) ⟨hb_1, va_recv hK hP (ci := 10) (q0 := 0) rfl rfl, hc_1⟩ rfl rfl hl.1 rfl (lv_room (Nat.le_of_ble_eq_true rfl)) dX8_addShop_2 ⟨(Nat.le_of_ble_eq_true rfl), (Nat.le_of_ble_eq_true rfl)⟩) hS (fun q _ h => hF_1 q h) hF_1 (fun r_1 u_1 t_1 H1 locs ht_1 hvm_1 hw_1 hB_1 hz_1 hk_1 hS1 => ?_)
  obtain ⟨hP, hK, hD⟩ := z_back (wc := [(m0, .inr (10, [.int th, .ref qu, .ref qs, .ref qc, .ref qp, .int 0, .int (-1), .int 0, .null])), (qu, .inr (1, [.int 0, .ref eu, .int 0]))]) (wr := []) (w1 := [(m0, .inr (10, [.int 1, .ref qu, .ref qs, .ref qc, .ref qp, .int 0, .int (-1), .int 0, .null])), (qu, .inr (1, [.int 0, .ref eu, .int 0]))]) (tr := []) hP hK hD [0, 1] [] rfl rfl rfl (by decide) ht_1 hvm_1 hk_1 hF_1 [] rfl hB_1
  have hS := hS1
  have hP : va_P D vwCl [(m0, .inr (10, [.int 1, .ref qu, .ref qs, .ref qc, .ref qp, .int 0, .int (-1), .int 0, .null])), (qu, .inr (1, [.int 0, .ref eu, .int 0]))] H1 := hP
  have hD : va_D A [(m0, .inr (10, [.int 1, .ref qu, .ref qs, .ref qc, .ref qp, .int 0, .int (-1), .int 0, .null])), (qu, .inr (1, [.int 0, .ref eu, .int 0]))] := hD
  have hK : va_K D vwCl [] s := hK
  clear hS1
  obtain rfl : r_1 = 1 := hw_1
  refine lv_if_eq (tgt := 10) hx hb dX8_addShop_5 (by decide) (fun c_2 => absurd c_2 (by decide)) (fun c_2 => ?_)
  refine lv_iconst (v := 0) hx hb dX8_addShop_8 (by decide) ?_
  exact W.iret (v := 0) hx hb hr (fun t ht hW => ⟨⟨0, (), rfl, trivial, z_end hP hK hD [0, 1] rfl rfl [] rfl ht hW.alike⟩, hS.F ht⟩) hS.2.2 dX8_addShop_9
theorem dX8_flow_0 : decode cX8_flow 0 = .ok (.aload_n 0, 1) := by decide +kernel
theorem dX8_flow_1 : decode cX8_flow 1 = .ok (.iload_n 1, 1) := by decide +kernel
theorem dX8_flow_2 : decode cX8_flow 2 = .ok (.invokevirtual 77, 3) := by decide +kernel
theorem dX8_flow_5 : decode cX8_flow 5 = .ok (.ifCond .eq 7, 3) := by decide +kernel
theorem dX8_flow_8 : decode cX8_flow 8 = .ok (.iconst 0, 1) := by decide +kernel
theorem dX8_flow_9 : decode cX8_flow 9 = .ok (.goto 10, 3) := by decide +kernel
theorem dX8_flow_19 : decode cX8_flow 19 = .ok (.ireturn, 1) := by decide +kernel
set_option maxHeartbeats 4000000 in
set_option maxRecDepth 100000 in
theorem f_X8_flow (l : Launch) (D : va_G) (m0 : Nat) (qu : Nat) (qs : Nat) (qc : Nat) (qp : Nat) (th : Int32) (eu : Nat) (a0 : Int32) (sz : Nat)  : Met l yX8_flow [Cond.code yX8_flow cX8_flow 2 (some .int)] ({ frames := 6, cells := 0, slots := 0, locals := 200 }) (z_Pc D [.ref m0, .int a0] [(m0, .inr (10, [.int th, .ref qu, .ref qs, .ref qc, .ref qp, .int 0, .int (-1), .int 0, .null])), (qu, .inr (1, [.int 0, .ref eu, .int 0]))] [] sz) (va_Qi (fun (r : Int32) (_ : Unit) => True) (fun _ t => z_W D [(m0, .inr (10, [.int 1, .ref qu, .ref qs, .ref qc, .ref qp, .int 0, .int (-1), .int 0, .null])), (qu, .inr (1, [.int 0, .ref eu, .int 0]))] [] (va_A [(m0, .inr (10, [.int th, .ref qu, .ref qs, .ref qc, .ref qp, .int 0, .int (-1), .int 0, .null])), (qu, .inr (1, [.int 0, .ref eu, .int 0]))] sz) t) (va_A [(m0, .inr (10, [.int th, .ref qu, .ref qs, .ref qc, .ref qp, .int 0, .int (-1), .int 0, .null])), (qu, .inr (1, [.int 0, .ref eu, .int 0]))] sz)) 0 0 (va_A [(m0, .inr (10, [.int th, .ref qu, .ref qs, .ref qc, .ref qp, .int 0, .int (-1), .int 0, .null])), (qu, .inr (1, [.int 0, .ref eu, .int 0]))] sz) := by
  refine Met.ofW (cc := cX8_flow) (maxL := 2) (ret := (some .int)) (by decide +kernel) rfl ?_
  intro p e s m args below meth c s₁ B hml hv
  obtain ⟨rfl, hsz, hP, hK, hD0, hE, hX0⟩ := hv
  have hx := B.exec
  have hb := B.bytes
  have hr := B.returns
  have hts := z_E.ts (args := [.ref m0, .int a0].toArray) hE
  have hown : s.vm.findClass RX8 = some m.cls := findClass_of_methodNamed B.named
  have hlocks := B.notSynchronized
  subst hsz
  have hD := hD0.self (sz := s.heap.size)
  generalize hAe : va_A [(m0, .inr (10, [.int th, .ref qu, .ref qs, .ref qc, .ref qp, .int 0, .int (-1), .int 0, .null])), (qu, .inr (1, [.int 0, .ref eu, .int 0]))] s.heap.size = A at hD hX0 ⊢
  have hX : z_X D A s s.heap := hX0
  have hA : ∀ q : Nat, s.heap.size ≤ q → A q := fun q h => by rw [← hAe]; exact Or.inr h
  have hS : va_S A s.heap s.heap [] := va_S.rf
  have hP : va_P D vwCl [(m0, .inr (10, [.int th, .ref qu, .ref qs, .ref qc, .ref qp, .int 0, .int (-1), .int 0, .null])), (qu, .inr (1, [.int 0, .ref eu, .int 0]))] s.heap := hP
  have hl := lv_entry ([.ref m0, .int a0]) (n := 2) (Nat.le_of_ble_eq_true rfl)
  rw [lg_entry_eq]
  generalize (lg_sl ([.ref m0, .int a0]) ++ List.replicate (2 - (lg_sl ([.ref m0, .int a0])).length) Slot.unset).toArray = ls at hl ⊢
  have hl : lv_has ls 2 [(0, .ref m0), (1, .int a0)] := hl
  skip
  refine lv_aload_n hx hb dX8_flow_0 rfl (lv_at hl 0 rfl) ?_
  refine lv_iload_n hx hb dX8_flow_1 rfl (lv_at hl 1 rfl) ?_
  obtain ⟨hb_1, hc_1⟩ := z_call (wc := [(m0, .inr (10, [.int th, .ref qu, .ref qs, .ref qc, .ref qp, .int 0, .int (-1), .int 0, .null])), (qu, .inr (1, [.int 0, .ref eu, .int 0]))]) (tc := []) ([.ref m0, .int a0]) hP hK hD hS hA hE hX [0, 1] rfl rfl [] rfl
  have hF_1 := va_free (wc := [(m0, .inr (10, [.int th, .ref qu, .ref qs, .ref qc, .ref qp, .int 0, .int (-1), .int 0, .null])), (qu, .inr (1, [.int 0, .ref eu, .int 0]))]) hD hS hA [0, 1] rfl
  refine va_calli (va_runV (As := [.int a0]) (rest := []) ⟨hx, hb, hml, hown, hts⟩ (f_X8_noUnit l D m0 qu qs qc qp th eu a0 _ ) (z_cV 1 hE zw_1251 zw_1253 zw_64 zw_96 zw_1254 rfl rfl rfl (by decide +kernel) ⟨(Nat.le_of_ble_eq_true rfl), (Nat.le_of_ble_eq_true rfl)⟩) ⟨hb_1, va_recv hK hP (ci := 10) (q0 := 0) rfl rfl, hc_1⟩ rfl rfl hl.1 rfl (lv_room (Nat.le_of_ble_eq_true rfl)) dX8_flow_2 ⟨(Nat.le_of_ble_eq_true rfl), (Nat.le_of_ble_eq_true rfl)⟩) hS (fun q _ h => hF_1 q h) hF_1 (fun r_1 u_1 t_1 H1 locs ht_1 hvm_1 hw_1 hB_1 hz_1 hk_1 hS1 => ?_)
  obtain ⟨hP, hK, hD⟩ := z_back (wc := [(m0, .inr (10, [.int th, .ref qu, .ref qs, .ref qc, .ref qp, .int 0, .int (-1), .int 0, .null])), (qu, .inr (1, [.int 0, .ref eu, .int 0]))]) (wr := []) (w1 := [(m0, .inr (10, [.int 1, .ref qu, .ref qs, .ref qc, .ref qp, .int 0, .int (-1), .int 0, .null])), (qu, .inr (1, [.int 0, .ref eu, .int 0]))]) (tr := []) hP hK hD [0, 1] [] rfl rfl rfl (by decide) ht_1 hvm_1 hk_1 hF_1 [] rfl hB_1
  have hS := hS1
  have hP : va_P D vwCl [(m0, .inr (10, [.int 1, .ref qu, .ref qs, .ref qc, .ref qp, .int 0, .int (-1), .int 0, .null])), (qu, .inr (1, [.int 0, .ref eu, .int 0]))] H1 := hP
  have hD : va_D A [(m0, .inr (10, [.int 1, .ref qu, .ref qs, .ref qc, .ref qp, .int 0, .int (-1), .int 0, .null])), (qu, .inr (1, [.int 0, .ref eu, .int 0]))] := hD
  have hK : va_K D vwCl [] s := hK
  clear hS1
  obtain rfl : r_1 = 1 := hw_1
  refine lv_if_eq (tgt := 12) hx hb dX8_flow_5 (by decide) (fun c_2 => absurd c_2 (by decide)) (fun c_2 => ?_)
  refine lv_iconst (v := 0) hx hb dX8_flow_8 (by decide) ?_
  refine lv_goto (tgt := 19) hx hb dX8_flow_9 (by decide) ?_
  exact W.iret (v := 0) hx hb hr (fun t ht hW => ⟨⟨0, (), rfl, trivial, z_end hP hK hD [0, 1] rfl rfl [] rfl ht hW.alike⟩, hS.F ht⟩) hS.2.2 dX8_flow_19
theorem dX8_room_0 : decode cX8_room 0 = .ok (.aload_n 0, 1) := by decide +kernel
theorem dX8_room_1 : decode cX8_room 1 = .ok (.iload_n 1, 1) := by decide +kernel
theorem dX8_room_2 : decode cX8_room 2 = .ok (.invokevirtual 77, 3) := by decide +kernel
theorem dX8_room_5 : decode cX8_room 5 = .ok (.ifCond .eq 7, 3) := by decide +kernel
theorem dX8_room_8 : decode cX8_room 8 = .ok (.iconst 0, 1) := by decide +kernel
theorem dX8_room_9 : decode cX8_room 9 = .ok (.goto 9, 3) := by decide +kernel
theorem dX8_room_18 : decode cX8_room 18 = .ok (.ireturn, 1) := by decide +kernel
set_option maxHeartbeats 4000000 in
set_option maxRecDepth 100000 in
theorem f_X8_room (l : Launch) (D : va_G) (m0 : Nat) (qu : Nat) (qs : Nat) (qc : Nat) (qp : Nat) (th : Int32) (eu : Nat) (a0 : Int32) (sz : Nat)  : Met l yX8_room [Cond.code yX8_room cX8_room 2 (some .int)] ({ frames := 6, cells := 0, slots := 0, locals := 200 }) (z_Pc D [.ref m0, .int a0] [(m0, .inr (10, [.int th, .ref qu, .ref qs, .ref qc, .ref qp, .int 0, .int (-1), .int 0, .null])), (qu, .inr (1, [.int 0, .ref eu, .int 0]))] [] sz) (va_Qi (fun (r : Int32) (_ : Unit) => True) (fun _ t => z_W D [(m0, .inr (10, [.int 1, .ref qu, .ref qs, .ref qc, .ref qp, .int 0, .int (-1), .int 0, .null])), (qu, .inr (1, [.int 0, .ref eu, .int 0]))] [] (va_A [(m0, .inr (10, [.int th, .ref qu, .ref qs, .ref qc, .ref qp, .int 0, .int (-1), .int 0, .null])), (qu, .inr (1, [.int 0, .ref eu, .int 0]))] sz) t) (va_A [(m0, .inr (10, [.int th, .ref qu, .ref qs, .ref qc, .ref qp, .int 0, .int (-1), .int 0, .null])), (qu, .inr (1, [.int 0, .ref eu, .int 0]))] sz)) 0 0 (va_A [(m0, .inr (10, [.int th, .ref qu, .ref qs, .ref qc, .ref qp, .int 0, .int (-1), .int 0, .null])), (qu, .inr (1, [.int 0, .ref eu, .int 0]))] sz) := by
  refine Met.ofW (cc := cX8_room) (maxL := 2) (ret := (some .int)) (by decide +kernel) rfl ?_
  intro p e s m args below meth c s₁ B hml hv
  obtain ⟨rfl, hsz, hP, hK, hD0, hE, hX0⟩ := hv
  have hx := B.exec
  have hb := B.bytes
  have hr := B.returns
  have hts := z_E.ts (args := [.ref m0, .int a0].toArray) hE
  have hown : s.vm.findClass RX8 = some m.cls := findClass_of_methodNamed B.named
  have hlocks := B.notSynchronized
  subst hsz
  have hD := hD0.self (sz := s.heap.size)
  generalize hAe : va_A [(m0, .inr (10, [.int th, .ref qu, .ref qs, .ref qc, .ref qp, .int 0, .int (-1), .int 0, .null])), (qu, .inr (1, [.int 0, .ref eu, .int 0]))] s.heap.size = A at hD hX0 ⊢
  have hX : z_X D A s s.heap := hX0
  have hA : ∀ q : Nat, s.heap.size ≤ q → A q := fun q h => by rw [← hAe]; exact Or.inr h
  have hS : va_S A s.heap s.heap [] := va_S.rf
  have hP : va_P D vwCl [(m0, .inr (10, [.int th, .ref qu, .ref qs, .ref qc, .ref qp, .int 0, .int (-1), .int 0, .null])), (qu, .inr (1, [.int 0, .ref eu, .int 0]))] s.heap := hP
  have hl := lv_entry ([.ref m0, .int a0]) (n := 2) (Nat.le_of_ble_eq_true rfl)
  rw [lg_entry_eq]
  generalize (lg_sl ([.ref m0, .int a0]) ++ List.replicate (2 - (lg_sl ([.ref m0, .int a0])).length) Slot.unset).toArray = ls at hl ⊢
  have hl : lv_has ls 2 [(0, .ref m0), (1, .int a0)] := hl
  skip
  refine lv_aload_n hx hb dX8_room_0 rfl (lv_at hl 0 rfl) ?_
  refine lv_iload_n hx hb dX8_room_1 rfl (lv_at hl 1 rfl) ?_
  obtain ⟨hb_1, hc_1⟩ := z_call (wc := [(m0, .inr (10, [.int th, .ref qu, .ref qs, .ref qc, .ref qp, .int 0, .int (-1), .int 0, .null])), (qu, .inr (1, [.int 0, .ref eu, .int 0]))]) (tc := []) ([.ref m0, .int a0]) hP hK hD hS hA hE hX [0, 1] rfl rfl [] rfl
  have hF_1 := va_free (wc := [(m0, .inr (10, [.int th, .ref qu, .ref qs, .ref qc, .ref qp, .int 0, .int (-1), .int 0, .null])), (qu, .inr (1, [.int 0, .ref eu, .int 0]))]) hD hS hA [0, 1] rfl
  refine va_calli (va_runV (As := [.int a0]) (rest := []) ⟨hx, hb, hml, hown, hts⟩ (f_X8_noUnit l D m0 qu qs qc qp th eu a0 _ ) (z_cV 1 hE zw_1251 zw_1253 zw_64 zw_96 zw_1254 rfl rfl rfl (by decide +kernel) ⟨(Nat.le_of_ble_eq_true rfl), (Nat.le_of_ble_eq_true rfl)⟩) ⟨hb_1, va_recv hK hP (ci := 10) (q0 := 0) rfl rfl, hc_1⟩ rfl rfl hl.1 rfl (lv_room (Nat.le_of_ble_eq_true rfl)) dX8_room_2 ⟨(Nat.le_of_ble_eq_true rfl), (Nat.le_of_ble_eq_true rfl)⟩) hS (fun q _ h => hF_1 q h) hF_1 (fun r_1 u_1 t_1 H1 locs ht_1 hvm_1 hw_1 hB_1 hz_1 hk_1 hS1 => ?_)
  obtain ⟨hP, hK, hD⟩ := z_back (wc := [(m0, .inr (10, [.int th, .ref qu, .ref qs, .ref qc, .ref qp, .int 0, .int (-1), .int 0, .null])), (qu, .inr (1, [.int 0, .ref eu, .int 0]))]) (wr := []) (w1 := [(m0, .inr (10, [.int 1, .ref qu, .ref qs, .ref qc, .ref qp, .int 0, .int (-1), .int 0, .null])), (qu, .inr (1, [.int 0, .ref eu, .int 0]))]) (tr := []) hP hK hD [0, 1] [] rfl rfl rfl (by decide) ht_1 hvm_1 hk_1 hF_1 [] rfl hB_1
  have hS := hS1
  have hP : va_P D vwCl [(m0, .inr (10, [.int 1, .ref qu, .ref qs, .ref qc, .ref qp, .int 0, .int (-1), .int 0, .null])), (qu, .inr (1, [.int 0, .ref eu, .int 0]))] H1 := hP
  have hD : va_D A [(m0, .inr (10, [.int 1, .ref qu, .ref qs, .ref qc, .ref qp, .int 0, .int (-1), .int 0, .null])), (qu, .inr (1, [.int 0, .ref eu, .int 0]))] := hD
  have hK : va_K D vwCl [] s := hK
  clear hS1
  obtain rfl : r_1 = 1 := hw_1
  refine lv_if_eq (tgt := 12) hx hb dX8_room_5 (by decide) (fun c_2 => absurd c_2 (by decide)) (fun c_2 => ?_)
  refine lv_iconst (v := 0) hx hb dX8_room_8 (by decide) ?_
  refine lv_goto (tgt := 18) hx hb dX8_room_9 (by decide) ?_
  exact W.iret (v := 0) hx hb hr (fun t ht hW => ⟨⟨0, (), rfl, trivial, z_end hP hK hD [0, 1] rfl rfl [] rfl ht hW.alike⟩, hS.F ht⟩) hS.2.2 dX8_room_18
theorem dX8_lostDays_0 : decode cX8_lostDays 0 = .ok (.aload_n 0, 1) := by decide +kernel
theorem dX8_lostDays_1 : decode cX8_lostDays 1 = .ok (.iload_n 1, 1) := by decide +kernel
theorem dX8_lostDays_2 : decode cX8_lostDays 2 = .ok (.invokevirtual 77, 3) := by decide +kernel
theorem dX8_lostDays_5 : decode cX8_lostDays 5 = .ok (.ifCond .eq 5, 3) := by decide +kernel
theorem dX8_lostDays_8 : decode cX8_lostDays 8 = .ok (.iconst 0, 1) := by decide +kernel
theorem dX8_lostDays_9 : decode cX8_lostDays 9 = .ok (.ireturn, 1) := by decide +kernel
set_option maxHeartbeats 4000000 in
set_option maxRecDepth 100000 in
theorem f_X8_lostDays (l : Launch) (D : va_G) (m0 : Nat) (qu : Nat) (qs : Nat) (qc : Nat) (qp : Nat) (th : Int32) (eu : Nat) (a0 : Int32) (a1 : Int32) (sz : Nat)  : Met l yX8_lostDays [Cond.code yX8_lostDays cX8_lostDays 3 (some .int)] ({ frames := 6, cells := 0, slots := 0, locals := 200 }) (z_Pc D [.ref m0, .int a0, .int a1] [(m0, .inr (10, [.int th, .ref qu, .ref qs, .ref qc, .ref qp, .int 0, .int (-1), .int 0, .null])), (qu, .inr (1, [.int 0, .ref eu, .int 0]))] [] sz) (va_Qi (fun (r : Int32) (_ : Unit) => True) (fun _ t => z_W D [(m0, .inr (10, [.int 1, .ref qu, .ref qs, .ref qc, .ref qp, .int 0, .int (-1), .int 0, .null])), (qu, .inr (1, [.int 0, .ref eu, .int 0]))] [] (va_A [(m0, .inr (10, [.int th, .ref qu, .ref qs, .ref qc, .ref qp, .int 0, .int (-1), .int 0, .null])), (qu, .inr (1, [.int 0, .ref eu, .int 0]))] sz) t) (va_A [(m0, .inr (10, [.int th, .ref qu, .ref qs, .ref qc, .ref qp, .int 0, .int (-1), .int 0, .null])), (qu, .inr (1, [.int 0, .ref eu, .int 0]))] sz)) 0 0 (va_A [(m0, .inr (10, [.int th, .ref qu, .ref qs, .ref qc, .ref qp, .int 0, .int (-1), .int 0, .null])), (qu, .inr (1, [.int 0, .ref eu, .int 0]))] sz) := by
  refine Met.ofW (cc := cX8_lostDays) (maxL := 3) (ret := (some .int)) (by decide +kernel) rfl ?_
  intro p e s m args below meth c s₁ B hml hv
  obtain ⟨rfl, hsz, hP, hK, hD0, hE, hX0⟩ := hv
  have hx := B.exec
  have hb := B.bytes
  have hr := B.returns
  have hts := z_E.ts (args := [.ref m0, .int a0, .int a1].toArray) hE
  have hown : s.vm.findClass RX8 = some m.cls := findClass_of_methodNamed B.named
  have hlocks := B.notSynchronized
  subst hsz
  have hD := hD0.self (sz := s.heap.size)
  generalize hAe : va_A [(m0, .inr (10, [.int th, .ref qu, .ref qs, .ref qc, .ref qp, .int 0, .int (-1), .int 0, .null])), (qu, .inr (1, [.int 0, .ref eu, .int 0]))] s.heap.size = A at hD hX0 ⊢
  have hX : z_X D A s s.heap := hX0
  have hA : ∀ q : Nat, s.heap.size ≤ q → A q := fun q h => by rw [← hAe]; exact Or.inr h
  have hS : va_S A s.heap s.heap [] := va_S.rf
  have hP : va_P D vwCl [(m0, .inr (10, [.int th, .ref qu, .ref qs, .ref qc, .ref qp, .int 0, .int (-1), .int 0, .null])), (qu, .inr (1, [.int 0, .ref eu, .int 0]))] s.heap := hP
  have hl := lv_entry ([.ref m0, .int a0, .int a1]) (n := 3) (Nat.le_of_ble_eq_true rfl)
  rw [lg_entry_eq]
  generalize (lg_sl ([.ref m0, .int a0, .int a1]) ++ List.replicate (3 - (lg_sl ([.ref m0, .int a0, .int a1])).length) Slot.unset).toArray = ls at hl ⊢
  have hl : lv_has ls 3 [(0, .ref m0), (1, .int a0), (2, .int a1)] := hl
  skip
  refine lv_aload_n hx hb dX8_lostDays_0 rfl (lv_at hl 0 rfl) ?_
  refine lv_iload_n hx hb dX8_lostDays_1 rfl (lv_at hl 1 rfl) ?_
  obtain ⟨hb_1, hc_1⟩ := z_call (wc := [(m0, .inr (10, [.int th, .ref qu, .ref qs, .ref qc, .ref qp, .int 0, .int (-1), .int 0, .null])), (qu, .inr (1, [.int 0, .ref eu, .int 0]))]) (tc := []) ([.ref m0, .int a0]) hP hK hD hS hA hE hX [0, 1] rfl rfl [] rfl
  have hF_1 := va_free (wc := [(m0, .inr (10, [.int th, .ref qu, .ref qs, .ref qc, .ref qp, .int 0, .int (-1), .int 0, .null])), (qu, .inr (1, [.int 0, .ref eu, .int 0]))]) hD hS hA [0, 1] rfl
  refine va_calli (va_runV (As := [.int a0]) (rest := []) ⟨hx, hb, hml, hown, hts⟩ (f_X8_noUnit l D m0 qu qs qc qp th eu a0 _ ) (z_cV 1 hE zw_1251 zw_1253 zw_64 zw_96 zw_1254 rfl rfl rfl (by decide +kernel) ⟨(Nat.le_of_ble_eq_true rfl), (Nat.le_of_ble_eq_true rfl)⟩) ⟨hb_1, va_recv hK hP (ci := 10) (q0 := 0) rfl rfl, hc_1⟩ rfl rfl hl.1 rfl (lv_room (Nat.le_of_ble_eq_true rfl)) dX8_lostDays_2 ⟨(Nat.le_of_ble_eq_true rfl), (Nat.le_of_ble_eq_true rfl)⟩) hS (fun q _ h => hF_1 q h) hF_1 (fun r_1 u_1 t_1 H1 locs ht_1 hvm_1 hw_1 hB_1 hz_1 hk_1 hS1 => ?_)
  obtain ⟨hP, hK, hD⟩ := z_back (wc := [(m0, .inr (10, [.int th, .ref qu, .ref qs, .ref qc, .ref qp, .int 0, .int (-1), .int 0, .null])), (qu, .inr (1, [.int 0, .ref eu, .int 0]))]) (wr := []) (w1 := [(m0, .inr (10, [.int 1, .ref qu, .ref qs, .ref qc, .ref qp, .int 0, .int (-1), .int 0, .null])), (qu, .inr (1, [.int 0, .ref eu, .int 0]))]) (tr := []) hP hK hD [0, 1] [] rfl rfl rfl (by decide) ht_1 hvm_1 hk_1 hF_1 [] rfl hB_1
  have hS := hS1
  have hP : va_P D vwCl [(m0, .inr (10, [.int 1, .ref qu, .ref qs, .ref qc, .ref qp, .int 0, .int (-1), .int 0, .null])), (qu, .inr (1, [.int 0, .ref eu, .int 0]))] H1 := hP
  have hD : va_D A [(m0, .inr (10, [.int 1, .ref qu, .ref qs, .ref qc, .ref qp, .int 0, .int (-1), .int 0, .null])), (qu, .inr (1, [.int 0, .ref eu, .int 0]))] := hD
  have hK : va_K D vwCl [] s := hK
  clear hS1
  obtain rfl : r_1 = 1 := hw_1
  refine lv_if_eq (tgt := 10) hx hb dX8_lostDays_5 (by decide) (fun c_2 => absurd c_2 (by decide)) (fun c_2 => ?_)
  refine lv_iconst (v := 0) hx hb dX8_lostDays_8 (by decide) ?_
  exact W.iret (v := 0) hx hb hr (fun t ht hW => ⟨⟨0, (), rfl, trivial, z_end hP hK hD [0, 1] rfl rfl [] rfl ht hW.alike⟩, hS.F ht⟩) hS.2.2 dX8_lostDays_9
theorem dX8_startIn_0 : decode cX8_startIn 0 = .ok (.aload_n 0, 1) := by decide +kernel
theorem dX8_startIn_1 : decode cX8_startIn 1 = .ok (.iload_n 1, 1) := by decide +kernel
theorem dX8_startIn_2 : decode cX8_startIn 2 = .ok (.invokevirtual 77, 3) := by decide +kernel
theorem dX8_startIn_5 : decode cX8_startIn 5 = .ok (.ifCond .eq 5, 3) := by decide +kernel
theorem dX8_startIn_8 : decode cX8_startIn 8 = .ok (.iconst 0, 1) := by decide +kernel
theorem dX8_startIn_9 : decode cX8_startIn 9 = .ok (.ireturn, 1) := by decide +kernel
set_option maxHeartbeats 4000000 in
set_option maxRecDepth 100000 in
theorem f_X8_startIn (l : Launch) (D : va_G) (m0 : Nat) (qu : Nat) (qs : Nat) (qc : Nat) (qp : Nat) (th : Int32) (eu : Nat) (a0 : Int32) (sz : Nat)  : Met l yX8_startIn [Cond.code yX8_startIn cX8_startIn 2 (some .int)] ({ frames := 6, cells := 0, slots := 0, locals := 200 }) (z_Pc D [.ref m0, .int a0] [(m0, .inr (10, [.int th, .ref qu, .ref qs, .ref qc, .ref qp, .int 0, .int (-1), .int 0, .null])), (qu, .inr (1, [.int 0, .ref eu, .int 0]))] [] sz) (va_Qi (fun (r : Int32) (_ : Unit) => True) (fun _ t => z_W D [(m0, .inr (10, [.int 1, .ref qu, .ref qs, .ref qc, .ref qp, .int 0, .int (-1), .int 0, .null])), (qu, .inr (1, [.int 0, .ref eu, .int 0]))] [] (va_A [(m0, .inr (10, [.int th, .ref qu, .ref qs, .ref qc, .ref qp, .int 0, .int (-1), .int 0, .null])), (qu, .inr (1, [.int 0, .ref eu, .int 0]))] sz) t) (va_A [(m0, .inr (10, [.int th, .ref qu, .ref qs, .ref qc, .ref qp, .int 0, .int (-1), .int 0, .null])), (qu, .inr (1, [.int 0, .ref eu, .int 0]))] sz)) 0 0 (va_A [(m0, .inr (10, [.int th, .ref qu, .ref qs, .ref qc, .ref qp, .int 0, .int (-1), .int 0, .null])), (qu, .inr (1, [.int 0, .ref eu, .int 0]))] sz) := by
  refine Met.ofW (cc := cX8_startIn) (maxL := 2) (ret := (some .int)) (by decide +kernel) rfl ?_
  intro p e s m args below meth c s₁ B hml hv
  obtain ⟨rfl, hsz, hP, hK, hD0, hE, hX0⟩ := hv
  have hx := B.exec
  have hb := B.bytes
  have hr := B.returns
  have hts := z_E.ts (args := [.ref m0, .int a0].toArray) hE
  have hown : s.vm.findClass RX8 = some m.cls := findClass_of_methodNamed B.named
  have hlocks := B.notSynchronized
  subst hsz
  have hD := hD0.self (sz := s.heap.size)
  generalize hAe : va_A [(m0, .inr (10, [.int th, .ref qu, .ref qs, .ref qc, .ref qp, .int 0, .int (-1), .int 0, .null])), (qu, .inr (1, [.int 0, .ref eu, .int 0]))] s.heap.size = A at hD hX0 ⊢
  have hX : z_X D A s s.heap := hX0
  have hA : ∀ q : Nat, s.heap.size ≤ q → A q := fun q h => by rw [← hAe]; exact Or.inr h
  have hS : va_S A s.heap s.heap [] := va_S.rf
  have hP : va_P D vwCl [(m0, .inr (10, [.int th, .ref qu, .ref qs, .ref qc, .ref qp, .int 0, .int (-1), .int 0, .null])), (qu, .inr (1, [.int 0, .ref eu, .int 0]))] s.heap := hP
  have hl := lv_entry ([.ref m0, .int a0]) (n := 2) (Nat.le_of_ble_eq_true rfl)
  rw [lg_entry_eq]
  generalize (lg_sl ([.ref m0, .int a0]) ++ List.replicate (2 - (lg_sl ([.ref m0, .int a0])).length) Slot.unset).toArray = ls at hl ⊢
  have hl : lv_has ls 2 [(0, .ref m0), (1, .int a0)] := hl
  skip
  refine lv_aload_n hx hb dX8_startIn_0 rfl (lv_at hl 0 rfl) ?_
  refine lv_iload_n hx hb dX8_startIn_1 rfl (lv_at hl 1 rfl) ?_
  obtain ⟨hb_1, hc_1⟩ := z_call (wc := [(m0, .inr (10, [.int th, .ref qu, .ref qs, .ref qc, .ref qp, .int 0, .int (-1), .int 0, .null])), (qu, .inr (1, [.int 0, .ref eu, .int 0]))]) (tc := []) ([.ref m0, .int a0]) hP hK hD hS hA hE hX [0, 1] rfl rfl [] rfl
  have hF_1 := va_free (wc := [(m0, .inr (10, [.int th, .ref qu, .ref qs, .ref qc, .ref qp, .int 0, .int (-1), .int 0, .null])), (qu, .inr (1, [.int 0, .ref eu, .int 0]))]) hD hS hA [0, 1] rfl
  refine va_calli (va_runV (As := [.int a0]) (rest := []) ⟨hx, hb, hml, hown, hts⟩ (f_X8_noUnit l D m0 qu qs qc qp th eu a0 _ ) (z_cV 1 hE zw_1251 zw_1253 zw_64 zw_96 zw_1254 rfl rfl rfl (by decide +kernel) ⟨(Nat.le_of_ble_eq_true rfl), (Nat.le_of_ble_eq_true rfl)⟩) ⟨hb_1, va_recv hK hP (ci := 10) (q0 := 0) rfl rfl, hc_1⟩ rfl rfl hl.1 rfl (lv_room (Nat.le_of_ble_eq_true rfl)) dX8_startIn_2 ⟨(Nat.le_of_ble_eq_true rfl), (Nat.le_of_ble_eq_true rfl)⟩) hS (fun q _ h => hF_1 q h) hF_1 (fun r_1 u_1 t_1 H1 locs ht_1 hvm_1 hw_1 hB_1 hz_1 hk_1 hS1 => ?_)
  obtain ⟨hP, hK, hD⟩ := z_back (wc := [(m0, .inr (10, [.int th, .ref qu, .ref qs, .ref qc, .ref qp, .int 0, .int (-1), .int 0, .null])), (qu, .inr (1, [.int 0, .ref eu, .int 0]))]) (wr := []) (w1 := [(m0, .inr (10, [.int 1, .ref qu, .ref qs, .ref qc, .ref qp, .int 0, .int (-1), .int 0, .null])), (qu, .inr (1, [.int 0, .ref eu, .int 0]))]) (tr := []) hP hK hD [0, 1] [] rfl rfl rfl (by decide) ht_1 hvm_1 hk_1 hF_1 [] rfl hB_1
  have hS := hS1
  have hP : va_P D vwCl [(m0, .inr (10, [.int 1, .ref qu, .ref qs, .ref qc, .ref qp, .int 0, .int (-1), .int 0, .null])), (qu, .inr (1, [.int 0, .ref eu, .int 0]))] H1 := hP
  have hD : va_D A [(m0, .inr (10, [.int 1, .ref qu, .ref qs, .ref qc, .ref qp, .int 0, .int (-1), .int 0, .null])), (qu, .inr (1, [.int 0, .ref eu, .int 0]))] := hD
  have hK : va_K D vwCl [] s := hK
  clear hS1
  obtain rfl : r_1 = 1 := hw_1
  refine lv_if_eq (tgt := 10) hx hb dX8_startIn_5 (by decide) (fun c_2 => absurd c_2 (by decide)) (fun c_2 => ?_)
  refine lv_iconst (v := 0) hx hb dX8_startIn_8 (by decide) ?_
  exact W.iret (v := 0) hx hb hr (fun t ht hW => ⟨⟨0, (), rfl, trivial, z_end hP hK hD [0, 1] rfl rfl [] rfl ht hW.alike⟩, hS.F ht⟩) hS.2.2 dX8_startIn_9
theorem dX8_state_0 : decode cX8_state 0 = .ok (.aload_n 0, 1) := by decide +kernel
theorem dX8_state_1 : decode cX8_state 1 = .ok (.iload_n 1, 1) := by decide +kernel
theorem dX8_state_2 : decode cX8_state 2 = .ok (.invokevirtual 169, 3) := by decide +kernel
theorem zw_1464 : Cond.methodLink RX8 169 yX8_noShop ∈ z_Ts := z_m 1464 (by decide +kernel) (by decide +kernel)
theorem zw_1466 : Cond.instanceMethod yX8_noShop ∈ z_Ts := z_m 1466 (by decide +kernel) (by decide +kernel)
theorem zw_74 : Cond.selects RX8 yX8_noShop yX8_noShop ∈ z_Ts := z_m 74 (by decide +kernel) (by decide +kernel)
theorem zw_1467 : Cond.code yX8_noShop cX8_noShop 2 (some .boolean) ∈ z_Ts := z_m 1467 (by decide +kernel) (by decide +kernel)
theorem dX8_state_5 : decode cX8_state 5 = .ok (.ifCond .eq 8, 3) := by decide +kernel
theorem dX8_state_8 : decode cX8_state 8 = .ok (.bipush 32, 2) := by decide +kernel
theorem dX8_state_10 : decode cX8_state 10 = .ok (.goto 17, 3) := by decide +kernel
theorem dX8_state_27 : decode cX8_state 27 = .ok (.ireturn, 1) := by decide +kernel
set_option maxHeartbeats 4000000 in
set_option maxRecDepth 100000 in
theorem f_X8_state (l : Launch) (D : va_G) (m0 : Nat) (qu : Nat) (qs : Nat) (qc : Nat) (qp : Nat) (th : Int32) (es : Nat) (a0 : Int32) (sz : Nat)  : Met l yX8_state [Cond.code yX8_state cX8_state 2 (some .char)] ({ frames := 6, cells := 0, slots := 0, locals := 200 }) (z_Pc D [.ref m0, .int a0] [(m0, .inr (10, [.int th, .ref qu, .ref qs, .ref qc, .ref qp, .int 0, .int (-1), .int 0, .null])), (qs, .inr (1, [.int 0, .ref es, .int 0]))] [] sz) (va_Qi (fun (r : Int32) (_ : Unit) => True) (fun _ t => z_W D [(m0, .inr (10, [.int 1, .ref qu, .ref qs, .ref qc, .ref qp, .int 0, .int (-1), .int 0, .null])), (qs, .inr (1, [.int 0, .ref es, .int 0]))] [] (va_A [(m0, .inr (10, [.int th, .ref qu, .ref qs, .ref qc, .ref qp, .int 0, .int (-1), .int 0, .null])), (qs, .inr (1, [.int 0, .ref es, .int 0]))] sz) t) (va_A [(m0, .inr (10, [.int th, .ref qu, .ref qs, .ref qc, .ref qp, .int 0, .int (-1), .int 0, .null])), (qs, .inr (1, [.int 0, .ref es, .int 0]))] sz)) 0 0 (va_A [(m0, .inr (10, [.int th, .ref qu, .ref qs, .ref qc, .ref qp, .int 0, .int (-1), .int 0, .null])), (qs, .inr (1, [.int 0, .ref es, .int 0]))] sz) := by
  refine Met.ofW (cc := cX8_state) (maxL := 2) (ret := (some .char)) (by decide +kernel) rfl ?_
  intro p e s m args below meth c s₁ B hml hv
  obtain ⟨rfl, hsz, hP, hK, hD0, hE, hX0⟩ := hv
  have hx := B.exec
  have hb := B.bytes
  have hr := B.returns
  have hts := z_E.ts (args := [.ref m0, .int a0].toArray) hE
  have hown : s.vm.findClass RX8 = some m.cls := findClass_of_methodNamed B.named
  have hlocks := B.notSynchronized
  subst hsz
  have hD := hD0.self (sz := s.heap.size)
  generalize hAe : va_A [(m0, .inr (10, [.int th, .ref qu, .ref qs, .ref qc, .ref qp, .int 0, .int (-1), .int 0, .null])), (qs, .inr (1, [.int 0, .ref es, .int 0]))] s.heap.size = A at hD hX0 ⊢
  have hX : z_X D A s s.heap := hX0
  have hA : ∀ q : Nat, s.heap.size ≤ q → A q := fun q h => by rw [← hAe]; exact Or.inr h
  have hS : va_S A s.heap s.heap [] := va_S.rf
  have hP : va_P D vwCl [(m0, .inr (10, [.int th, .ref qu, .ref qs, .ref qc, .ref qp, .int 0, .int (-1), .int 0, .null])), (qs, .inr (1, [.int 0, .ref es, .int 0]))] s.heap := hP
  have hl := lv_entry ([.ref m0, .int a0]) (n := 2) (Nat.le_of_ble_eq_true rfl)
  rw [lg_entry_eq]
  generalize (lg_sl ([.ref m0, .int a0]) ++ List.replicate (2 - (lg_sl ([.ref m0, .int a0])).length) Slot.unset).toArray = ls at hl ⊢
  have hl : lv_has ls 2 [(0, .ref m0), (1, .int a0)] := hl
  skip
  refine lv_aload_n hx hb dX8_state_0 rfl (lv_at hl 0 rfl) ?_
  refine lv_iload_n hx hb dX8_state_1 rfl (lv_at hl 1 rfl) ?_
  obtain ⟨hb_1, hc_1⟩ := z_call (wc := [(m0, .inr (10, [.int th, .ref qu, .ref qs, .ref qc, .ref qp, .int 0, .int (-1), .int 0, .null])), (qs, .inr (1, [.int 0, .ref es, .int 0]))]) (tc := []) ([.ref m0, .int a0]) hP hK hD hS hA hE hX [0, 1] rfl rfl [] rfl
  have hF_1 := va_free (wc := [(m0, .inr (10, [.int th, .ref qu, .ref qs, .ref qc, .ref qp, .int 0, .int (-1), .int 0, .null])), (qs, .inr (1, [.int 0, .ref es, .int 0]))]) hD hS hA [0, 1] rfl
  refine va_calli (va_runV (As := [.int a0]) (rest := []) ⟨hx, hb, hml, hown, hts⟩ (f_X8_noShop l D m0 qu qs qc qp th es a0 _ ) (z_cV 1 hE zw_1464 zw_1466 zw_74 zw_96 zw_1467 rfl rfl rfl (by decide +kernel) ⟨(Nat.le_of_ble_eq_true rfl), (Nat.le_of_ble_eq_true rfl)⟩) ⟨hb_1, va_recv hK hP (ci := 10) (q0 := 0) rfl rfl, hc_1⟩ rfl rfl hl.1 rfl (lv_room (Nat.le_of_ble_eq_true rfl)) dX8_state_2 ⟨(Nat.le_of_ble_eq_true rfl), (Nat.le_of_ble_eq_true rfl)⟩) hS (fun q _ h => hF_1 q h) hF_1 (fun r_1 u_1 t_1 H1 locs ht_1 hvm_1 hw_1 hB_1 hz_1 hk_1 hS1 => ?_)
  obtain ⟨hP, hK, hD⟩ := z_back (wc := [(m0, .inr (10, [.int th, .ref qu, .ref qs, .ref qc, .ref qp, .int 0, .int (-1), .int 0, .null])), (qs, .inr (1, [.int 0, .ref es, .int 0]))]) (wr := []) (w1 := [(m0, .inr (10, [.int 1, .ref qu, .ref qs, .ref qc, .ref qp, .int 0, .int (-1), .int 0, .null])), (qs, .inr (1, [.int 0, .ref es, .int 0]))]) (tr := []) hP hK hD [0, 1] [] rfl rfl rfl (by decide) ht_1 hvm_1 hk_1 hF_1 [] rfl hB_1
  have hS := hS1
  have hP : va_P D vwCl [(m0, .inr (10, [.int 1, .ref qu, .ref qs, .ref qc, .ref qp, .int 0, .int (-1), .int 0, .null])), (qs, .inr (1, [.int 0, .ref es, .int 0]))] H1 := hP
  have hD : va_D A [(m0, .inr (10, [.int 1, .ref qu, .ref qs, .ref qc, .ref qp, .int 0, .int (-1), .int 0, .null])), (qs, .inr (1, [.int 0, .ref es, .int 0]))] := hD
  have hK : va_K D vwCl [] s := hK
  clear hS1
  obtain rfl : r_1 = 1 := hw_1
  refine lv_if_eq (tgt := 13) hx hb dX8_state_5 (by decide) (fun c_2 => absurd c_2 (by decide)) (fun c_2 => ?_)
  refine lv_bipush (v := 32) hx hb dX8_state_8 (by decide) ?_
  refine lv_goto (tgt := 27) hx hb dX8_state_10 (by decide) ?_
  exact W.zret (v := 32) hx hb hr (by first | rfl | decide) (fun t ht hW => ⟨⟨32, (), rfl, trivial, z_end hP hK hD [0, 1] rfl rfl [] rfl ht hW.alike⟩, hS.F ht⟩) hS.2.2 dX8_state_27
theorem dX8_unitOf_0 : decode cX8_unitOf 0 = .ok (.aload_n 0, 1) := by decide +kernel
theorem dX8_unitOf_1 : decode cX8_unitOf 1 = .ok (.iload_n 1, 1) := by decide +kernel
theorem dX8_unitOf_2 : decode cX8_unitOf 2 = .ok (.invokevirtual 169, 3) := by decide +kernel
theorem dX8_unitOf_5 : decode cX8_unitOf 5 = .ok (.ifCond .eq 5, 3) := by decide +kernel
theorem dX8_unitOf_8 : decode cX8_unitOf 8 = .ok (.iconst 0, 1) := by decide +kernel
theorem dX8_unitOf_9 : decode cX8_unitOf 9 = .ok (.ireturn, 1) := by decide +kernel
set_option maxHeartbeats 4000000 in
set_option maxRecDepth 100000 in
theorem f_X8_unitOf (l : Launch) (D : va_G) (m0 : Nat) (qu : Nat) (qs : Nat) (qc : Nat) (qp : Nat) (th : Int32) (es : Nat) (a0 : Int32) (sz : Nat)  : Met l yX8_unitOf [Cond.code yX8_unitOf cX8_unitOf 2 (some .int)] ({ frames := 6, cells := 0, slots := 0, locals := 200 }) (z_Pc D [.ref m0, .int a0] [(m0, .inr (10, [.int th, .ref qu, .ref qs, .ref qc, .ref qp, .int 0, .int (-1), .int 0, .null])), (qs, .inr (1, [.int 0, .ref es, .int 0]))] [] sz) (va_Qi (fun (r : Int32) (_ : Unit) => True) (fun _ t => z_W D [(m0, .inr (10, [.int 1, .ref qu, .ref qs, .ref qc, .ref qp, .int 0, .int (-1), .int 0, .null])), (qs, .inr (1, [.int 0, .ref es, .int 0]))] [] (va_A [(m0, .inr (10, [.int th, .ref qu, .ref qs, .ref qc, .ref qp, .int 0, .int (-1), .int 0, .null])), (qs, .inr (1, [.int 0, .ref es, .int 0]))] sz) t) (va_A [(m0, .inr (10, [.int th, .ref qu, .ref qs, .ref qc, .ref qp, .int 0, .int (-1), .int 0, .null])), (qs, .inr (1, [.int 0, .ref es, .int 0]))] sz)) 0 0 (va_A [(m0, .inr (10, [.int th, .ref qu, .ref qs, .ref qc, .ref qp, .int 0, .int (-1), .int 0, .null])), (qs, .inr (1, [.int 0, .ref es, .int 0]))] sz) := by
  refine Met.ofW (cc := cX8_unitOf) (maxL := 2) (ret := (some .int)) (by decide +kernel) rfl ?_
  intro p e s m args below meth c s₁ B hml hv
  obtain ⟨rfl, hsz, hP, hK, hD0, hE, hX0⟩ := hv
  have hx := B.exec
  have hb := B.bytes
  have hr := B.returns
  have hts := z_E.ts (args := [.ref m0, .int a0].toArray) hE
  have hown : s.vm.findClass RX8 = some m.cls := findClass_of_methodNamed B.named
  have hlocks := B.notSynchronized
  subst hsz
  have hD := hD0.self (sz := s.heap.size)
  generalize hAe : va_A [(m0, .inr (10, [.int th, .ref qu, .ref qs, .ref qc, .ref qp, .int 0, .int (-1), .int 0, .null])), (qs, .inr (1, [.int 0, .ref es, .int 0]))] s.heap.size = A at hD hX0 ⊢
  have hX : z_X D A s s.heap := hX0
  have hA : ∀ q : Nat, s.heap.size ≤ q → A q := fun q h => by rw [← hAe]; exact Or.inr h
  have hS : va_S A s.heap s.heap [] := va_S.rf
  have hP : va_P D vwCl [(m0, .inr (10, [.int th, .ref qu, .ref qs, .ref qc, .ref qp, .int 0, .int (-1), .int 0, .null])), (qs, .inr (1, [.int 0, .ref es, .int 0]))] s.heap := hP
  have hl := lv_entry ([.ref m0, .int a0]) (n := 2) (Nat.le_of_ble_eq_true rfl)
  rw [lg_entry_eq]
  generalize (lg_sl ([.ref m0, .int a0]) ++ List.replicate (2 - (lg_sl ([.ref m0, .int a0])).length) Slot.unset).toArray = ls at hl ⊢
  have hl : lv_has ls 2 [(0, .ref m0), (1, .int a0)] := hl
  skip
  refine lv_aload_n hx hb dX8_unitOf_0 rfl (lv_at hl 0 rfl) ?_
  refine lv_iload_n hx hb dX8_unitOf_1 rfl (lv_at hl 1 rfl) ?_
  obtain ⟨hb_1, hc_1⟩ := z_call (wc := [(m0, .inr (10, [.int th, .ref qu, .ref qs, .ref qc, .ref qp, .int 0, .int (-1), .int 0, .null])), (qs, .inr (1, [.int 0, .ref es, .int 0]))]) (tc := []) ([.ref m0, .int a0]) hP hK hD hS hA hE hX [0, 1] rfl rfl [] rfl
  have hF_1 := va_free (wc := [(m0, .inr (10, [.int th, .ref qu, .ref qs, .ref qc, .ref qp, .int 0, .int (-1), .int 0, .null])), (qs, .inr (1, [.int 0, .ref es, .int 0]))]) hD hS hA [0, 1] rfl
  refine va_calli (va_runV (As := [.int a0]) (rest := []) ⟨hx, hb, hml, hown, hts⟩ (f_X8_noShop l D m0 qu qs qc qp th es a0 _ ) (z_cV 1 hE zw_1464 zw_1466 zw_74 zw_96 zw_1467 rfl rfl rfl (by decide +kernel) ⟨(Nat.le_of_ble_eq_true rfl), (Nat.le_of_ble_eq_true rfl)⟩) ⟨hb_1, va_recv hK hP (ci := 10) (q0 := 0) rfl rfl, hc_1⟩ rfl rfl hl.1 rfl (lv_room (Nat.le_of_ble_eq_true rfl)) dX8_unitOf_2 ⟨(Nat.le_of_ble_eq_true rfl), (Nat.le_of_ble_eq_true rfl)⟩) hS (fun q _ h => hF_1 q h) hF_1 (fun r_1 u_1 t_1 H1 locs ht_1 hvm_1 hw_1 hB_1 hz_1 hk_1 hS1 => ?_)
  obtain ⟨hP, hK, hD⟩ := z_back (wc := [(m0, .inr (10, [.int th, .ref qu, .ref qs, .ref qc, .ref qp, .int 0, .int (-1), .int 0, .null])), (qs, .inr (1, [.int 0, .ref es, .int 0]))]) (wr := []) (w1 := [(m0, .inr (10, [.int 1, .ref qu, .ref qs, .ref qc, .ref qp, .int 0, .int (-1), .int 0, .null])), (qs, .inr (1, [.int 0, .ref es, .int 0]))]) (tr := []) hP hK hD [0, 1] [] rfl rfl rfl (by decide) ht_1 hvm_1 hk_1 hF_1 [] rfl hB_1
  have hS := hS1
  have hP : va_P D vwCl [(m0, .inr (10, [.int 1, .ref qu, .ref qs, .ref qc, .ref qp, .int 0, .int (-1), .int 0, .null])), (qs, .inr (1, [.int 0, .ref es, .int 0]))] H1 := hP
  have hD : va_D A [(m0, .inr (10, [.int 1, .ref qu, .ref qs, .ref qc, .ref qp, .int 0, .int (-1), .int 0, .null])), (qs, .inr (1, [.int 0, .ref es, .int 0]))] := hD
  have hK : va_K D vwCl [] s := hK
  clear hS1
  obtain rfl : r_1 = 1 := hw_1
  refine lv_if_eq (tgt := 10) hx hb dX8_unitOf_5 (by decide) (fun c_2 => absurd c_2 (by decide)) (fun c_2 => ?_)
  refine lv_iconst (v := 0) hx hb dX8_unitOf_8 (by decide) ?_
  exact W.iret (v := 0) hx hb hr (fun t ht hW => ⟨⟨0, (), rfl, trivial, z_end hP hK hD [0, 1] rfl rfl [] rfl ht hW.alike⟩, hS.F ht⟩) hS.2.2 dX8_unitOf_9
theorem dX8_homeOf_0 : decode cX8_homeOf 0 = .ok (.aload_n 0, 1) := by decide +kernel
theorem dX8_homeOf_1 : decode cX8_homeOf 1 = .ok (.iload_n 1, 1) := by decide +kernel
theorem dX8_homeOf_2 : decode cX8_homeOf 2 = .ok (.invokevirtual 169, 3) := by decide +kernel
theorem dX8_homeOf_5 : decode cX8_homeOf 5 = .ok (.ifCond .eq 7, 3) := by decide +kernel
theorem dX8_homeOf_8 : decode cX8_homeOf 8 = .ok (.iconst 0, 1) := by decide +kernel
theorem dX8_homeOf_9 : decode cX8_homeOf 9 = .ok (.goto 17, 3) := by decide +kernel
theorem dX8_homeOf_26 : decode cX8_homeOf 26 = .ok (.ireturn, 1) := by decide +kernel
set_option maxHeartbeats 4000000 in
set_option maxRecDepth 100000 in
theorem f_X8_homeOf (l : Launch) (D : va_G) (m0 : Nat) (qu : Nat) (qs : Nat) (qc : Nat) (qp : Nat) (th : Int32) (es : Nat) (a0 : Int32) (sz : Nat)  : Met l yX8_homeOf [Cond.code yX8_homeOf cX8_homeOf 2 (some .int)] ({ frames := 6, cells := 0, slots := 0, locals := 200 }) (z_Pc D [.ref m0, .int a0] [(m0, .inr (10, [.int th, .ref qu, .ref qs, .ref qc, .ref qp, .int 0, .int (-1), .int 0, .null])), (qs, .inr (1, [.int 0, .ref es, .int 0]))] [] sz) (va_Qi (fun (r : Int32) (_ : Unit) => True) (fun _ t => z_W D [(m0, .inr (10, [.int 1, .ref qu, .ref qs, .ref qc, .ref qp, .int 0, .int (-1), .int 0, .null])), (qs, .inr (1, [.int 0, .ref es, .int 0]))] [] (va_A [(m0, .inr (10, [.int th, .ref qu, .ref qs, .ref qc, .ref qp, .int 0, .int (-1), .int 0, .null])), (qs, .inr (1, [.int 0, .ref es, .int 0]))] sz) t) (va_A [(m0, .inr (10, [.int th, .ref qu, .ref qs, .ref qc, .ref qp, .int 0, .int (-1), .int 0, .null])), (qs, .inr (1, [.int 0, .ref es, .int 0]))] sz)) 0 0 (va_A [(m0, .inr (10, [.int th, .ref qu, .ref qs, .ref qc, .ref qp, .int 0, .int (-1), .int 0, .null])), (qs, .inr (1, [.int 0, .ref es, .int 0]))] sz) := by
  refine Met.ofW (cc := cX8_homeOf) (maxL := 2) (ret := (some .int)) (by decide +kernel) rfl ?_
  intro p e s m args below meth c s₁ B hml hv
  obtain ⟨rfl, hsz, hP, hK, hD0, hE, hX0⟩ := hv
  have hx := B.exec
  have hb := B.bytes
  have hr := B.returns
  have hts := z_E.ts (args := [.ref m0, .int a0].toArray) hE
  have hown : s.vm.findClass RX8 = some m.cls := findClass_of_methodNamed B.named
  have hlocks := B.notSynchronized
  subst hsz
  have hD := hD0.self (sz := s.heap.size)
  generalize hAe : va_A [(m0, .inr (10, [.int th, .ref qu, .ref qs, .ref qc, .ref qp, .int 0, .int (-1), .int 0, .null])), (qs, .inr (1, [.int 0, .ref es, .int 0]))] s.heap.size = A at hD hX0 ⊢
  have hX : z_X D A s s.heap := hX0
  have hA : ∀ q : Nat, s.heap.size ≤ q → A q := fun q h => by rw [← hAe]; exact Or.inr h
  have hS : va_S A s.heap s.heap [] := va_S.rf
  have hP : va_P D vwCl [(m0, .inr (10, [.int th, .ref qu, .ref qs, .ref qc, .ref qp, .int 0, .int (-1), .int 0, .null])), (qs, .inr (1, [.int 0, .ref es, .int 0]))] s.heap := hP
  have hl := lv_entry ([.ref m0, .int a0]) (n := 2) (Nat.le_of_ble_eq_true rfl)
  rw [lg_entry_eq]
  generalize (lg_sl ([.ref m0, .int a0]) ++ List.replicate (2 - (lg_sl ([.ref m0, .int a0])).length) Slot.unset).toArray = ls at hl ⊢
  have hl : lv_has ls 2 [(0, .ref m0), (1, .int a0)] := hl
  skip
  refine lv_aload_n hx hb dX8_homeOf_0 rfl (lv_at hl 0 rfl) ?_
  refine lv_iload_n hx hb dX8_homeOf_1 rfl (lv_at hl 1 rfl) ?_
  obtain ⟨hb_1, hc_1⟩ := z_call (wc := [(m0, .inr (10, [.int th, .ref qu, .ref qs, .ref qc, .ref qp, .int 0, .int (-1), .int 0, .null])), (qs, .inr (1, [.int 0, .ref es, .int 0]))]) (tc := []) ([.ref m0, .int a0]) hP hK hD hS hA hE hX [0, 1] rfl rfl [] rfl
  have hF_1 := va_free (wc := [(m0, .inr (10, [.int th, .ref qu, .ref qs, .ref qc, .ref qp, .int 0, .int (-1), .int 0, .null])), (qs, .inr (1, [.int 0, .ref es, .int 0]))]) hD hS hA [0, 1] rfl
  refine va_calli (va_runV (As := [.int a0]) (rest := []) ⟨hx, hb, hml, hown, hts⟩ (f_X8_noShop l D m0 qu qs qc qp th es a0 _ ) (z_cV 1 hE zw_1464 zw_1466 zw_74 zw_96 zw_1467 rfl rfl rfl (by decide +kernel) ⟨(Nat.le_of_ble_eq_true rfl), (Nat.le_of_ble_eq_true rfl)⟩) ⟨hb_1, va_recv hK hP (ci := 10) (q0 := 0) rfl rfl, hc_1⟩ rfl rfl hl.1 rfl (lv_room (Nat.le_of_ble_eq_true rfl)) dX8_homeOf_2 ⟨(Nat.le_of_ble_eq_true rfl), (Nat.le_of_ble_eq_true rfl)⟩) hS (fun q _ h => hF_1 q h) hF_1 (fun r_1 u_1 t_1 H1 locs ht_1 hvm_1 hw_1 hB_1 hz_1 hk_1 hS1 => ?_)
  obtain ⟨hP, hK, hD⟩ := z_back (wc := [(m0, .inr (10, [.int th, .ref qu, .ref qs, .ref qc, .ref qp, .int 0, .int (-1), .int 0, .null])), (qs, .inr (1, [.int 0, .ref es, .int 0]))]) (wr := []) (w1 := [(m0, .inr (10, [.int 1, .ref qu, .ref qs, .ref qc, .ref qp, .int 0, .int (-1), .int 0, .null])), (qs, .inr (1, [.int 0, .ref es, .int 0]))]) (tr := []) hP hK hD [0, 1] [] rfl rfl rfl (by decide) ht_1 hvm_1 hk_1 hF_1 [] rfl hB_1
  have hS := hS1
  have hP : va_P D vwCl [(m0, .inr (10, [.int 1, .ref qu, .ref qs, .ref qc, .ref qp, .int 0, .int (-1), .int 0, .null])), (qs, .inr (1, [.int 0, .ref es, .int 0]))] H1 := hP
  have hD : va_D A [(m0, .inr (10, [.int 1, .ref qu, .ref qs, .ref qc, .ref qp, .int 0, .int (-1), .int 0, .null])), (qs, .inr (1, [.int 0, .ref es, .int 0]))] := hD
  have hK : va_K D vwCl [] s := hK
  clear hS1
  obtain rfl : r_1 = 1 := hw_1
  refine lv_if_eq (tgt := 12) hx hb dX8_homeOf_5 (by decide) (fun c_2 => absurd c_2 (by decide)) (fun c_2 => ?_)
  refine lv_iconst (v := 0) hx hb dX8_homeOf_8 (by decide) ?_
  refine lv_goto (tgt := 26) hx hb dX8_homeOf_9 (by decide) ?_
  exact W.iret (v := 0) hx hb hr (fun t ht hW => ⟨⟨0, (), rfl, trivial, z_end hP hK hD [0, 1] rfl rfl [] rfl ht hW.alike⟩, hS.F ht⟩) hS.2.2 dX8_homeOf_26
theorem dX8_move_0 : decode cX8_move 0 = .ok (.aload_n 0, 1) := by decide +kernel
theorem dX8_move_1 : decode cX8_move 1 = .ok (.iload_n 1, 1) := by decide +kernel
theorem dX8_move_2 : decode cX8_move 2 = .ok (.i2l, 1) := by decide +kernel
theorem dX8_move_3 : decode cX8_move 3 = .ok (.lconst 0, 1) := by decide +kernel
theorem dX8_move_4 : decode cX8_move 4 = .ok (.aload_n 0, 1) := by decide +kernel
theorem dX8_move_5 : decode cX8_move 5 = .ok (.getfield 16, 3) := by decide +kernel
theorem dX8_move_8 : decode cX8_move 8 = .ok (.invokevirtual 33, 3) := by decide +kernel
theorem dX8_move_11 : decode cX8_move 11 = .ok (.iconst 1, 1) := by decide +kernel
theorem dX8_move_12 : decode cX8_move 12 = .ok (.isub, 1) := by decide +kernel
theorem dX8_move_13 : decode cX8_move 13 = .ok (.i2l, 1) := by decide +kernel
theorem dX8_move_14 : decode cX8_move 14 = .ok (.invokestatic 37, 3) := by decide +kernel
theorem dX8_move_17 : decode cX8_move 17 = .ok (.ifCond .eq 15, 3) := by decide +kernel
theorem dX8_move_32 : decode cX8_move 32 = .ok (.iconst 1, 1) := by decide +kernel
theorem dX8_move_33 : decode cX8_move 33 = .ok (.putfield 30, 3) := by decide +kernel
theorem dX8_move_36 : decode cX8_move 36 = .ok (.aload_n 0, 1) := by decide +kernel
theorem dX8_move_37 : decode cX8_move 37 = .ok (.getfield 30, 3) := by decide +kernel
theorem dX8_move_40 : decode cX8_move 40 = .ok (.ifCond .le 5, 3) := by decide +kernel
theorem dX8_move_43 : decode cX8_move 43 = .ok (.iconst 0, 1) := by decide +kernel
theorem dX8_move_44 : decode cX8_move 44 = .ok (.ireturn, 1) := by decide +kernel
set_option maxHeartbeats 4000000 in
set_option maxRecDepth 100000 in
theorem f_X8_move (l : Launch) (D : va_G) (m0 : Nat) (qu : Nat) (qs : Nat) (qc : Nat) (qp : Nat) (th : Int32) (es : Nat) (a0 : Int32) (a1 : Int32) (sz : Nat)  : Met l yX8_move [Cond.code yX8_move cX8_move 4 (some .int)] ({ frames := 6, cells := 0, slots := 0, locals := 200 }) (z_Pc D [.ref m0, .int a0, .int a1] [(m0, .inr (10, [.int th, .ref qu, .ref qs, .ref qc, .ref qp, .int 0, .int (-1), .int 0, .null])), (qs, .inr (1, [.int 0, .ref es, .int 0]))] [] sz) (va_Qi (fun (r : Int32) (_ : Unit) => True) (fun _ t => z_W D [(m0, .inr (10, [.int 1, .ref qu, .ref qs, .ref qc, .ref qp, .int 0, .int (-1), .int 0, .null])), (qs, .inr (1, [.int 0, .ref es, .int 0]))] [] (va_A [(m0, .inr (10, [.int th, .ref qu, .ref qs, .ref qc, .ref qp, .int 0, .int (-1), .int 0, .null])), (qs, .inr (1, [.int 0, .ref es, .int 0]))] sz) t) (va_A [(m0, .inr (10, [.int th, .ref qu, .ref qs, .ref qc, .ref qp, .int 0, .int (-1), .int 0, .null])), (qs, .inr (1, [.int 0, .ref es, .int 0]))] sz)) 0 0 (va_A [(m0, .inr (10, [.int th, .ref qu, .ref qs, .ref qc, .ref qp, .int 0, .int (-1), .int 0, .null])), (qs, .inr (1, [.int 0, .ref es, .int 0]))] sz) := by
  refine Met.ofW (cc := cX8_move) (maxL := 4) (ret := (some .int)) (by decide +kernel) rfl ?_
  intro p e s m args below meth c s₁ B hml hv
  obtain ⟨rfl, hsz, hP, hK, hD0, hE, hX0⟩ := hv
  have hx := B.exec
  have hb := B.bytes
  have hr := B.returns
  have hts := z_E.ts (args := [.ref m0, .int a0, .int a1].toArray) hE
  have hown : s.vm.findClass RX8 = some m.cls := findClass_of_methodNamed B.named
  have hlocks := B.notSynchronized
  subst hsz
  have hD := hD0.self (sz := s.heap.size)
  generalize hAe : va_A [(m0, .inr (10, [.int th, .ref qu, .ref qs, .ref qc, .ref qp, .int 0, .int (-1), .int 0, .null])), (qs, .inr (1, [.int 0, .ref es, .int 0]))] s.heap.size = A at hD hX0 ⊢
  have hX : z_X D A s s.heap := hX0
  have hA : ∀ q : Nat, s.heap.size ≤ q → A q := fun q h => by rw [← hAe]; exact Or.inr h
  have hS : va_S A s.heap s.heap [] := va_S.rf
  have hP : va_P D vwCl [(m0, .inr (10, [.int th, .ref qu, .ref qs, .ref qc, .ref qp, .int 0, .int (-1), .int 0, .null])), (qs, .inr (1, [.int 0, .ref es, .int 0]))] s.heap := hP
  have hl := lv_entry ([.ref m0, .int a0, .int a1]) (n := 4) (Nat.le_of_ble_eq_true rfl)
  rw [lg_entry_eq]
  generalize (lg_sl ([.ref m0, .int a0, .int a1]) ++ List.replicate (4 - (lg_sl ([.ref m0, .int a0, .int a1])).length) Slot.unset).toArray = ls at hl ⊢
  have hl : lv_has ls 4 [(0, .ref m0), (1, .int a0), (2, .int a1)] := hl
  skip
  refine lv_aload_n hx hb dX8_move_0 rfl (lv_at hl 0 rfl) ?_
  refine lv_iload_n hx hb dX8_move_1 rfl (lv_at hl 1 rfl) ?_
  refine lv_i2l hx hb dX8_move_2 rfl ?_
  refine lv_lconst (v := 0) hx hb dX8_move_3 (by decide) ?_
  refine lv_aload_n hx hb dX8_move_4 rfl (lv_at hl 0 rfl) ?_
  refine va_get (D := D) (ci := 10) (v := .ref qs) (C := RX8) (T := TX8) (N := 9) hx hb hts zin_X8 hown hK hP 0 rfl rfl 2 (by decide) (hts _ zw_1082) (fun _ h9 => h9) rfl dX8_move_5 ?_
  obtain ⟨hb_1, hc_1⟩ := z_call (wc := [(qs, .inr (1, [.int 0, .ref es, .int 0]))]) (tc := []) ([.ref qs]) hP hK hD hS hA hE hX [1] rfl rfl [] rfl
  have hF_1 := va_free (wc := [(qs, .inr (1, [.int 0, .ref es, .int 0]))]) hD hS hA [1] rfl
  refine va_calli (va_runV (As := []) (rest := [.long 0, .long (a0).toInt64, .ref m0]) ⟨hx, hb, hml, hown, hts⟩ (c_J_size l D qs 0 es 0 _ ) (z_cV 0 hE zw_1125 zw_1126 zw_1127 zw_99 zw_1128 rfl rfl rfl (by decide +kernel) ⟨(Nat.le_of_ble_eq_true rfl), (Nat.le_of_ble_eq_true rfl)⟩) ⟨hb_1, va_recv hK hP (ci := 1) (q0 := 1) rfl rfl, hc_1⟩ rfl rfl hl.1 rfl (lv_room (Nat.le_of_ble_eq_true rfl)) dX8_move_8 ⟨(Nat.le_of_ble_eq_true rfl), (Nat.le_of_ble_eq_true rfl)⟩) hS (fun q _ h => hF_1 q h) hF_1 (fun r_1 u_1 t_1 H1 locs ht_1 hvm_1 hw_1 hB_1 hz_1 hk_1 hS1 => ?_)
  obtain ⟨hP, hK, hD⟩ := z_back (wc := [(qs, .inr (1, [.int 0, .ref es, .int 0]))]) (wr := [(m0, .inr (10, [.int th, .ref qu, .ref qs, .ref qc, .ref qp, .int 0, .int (-1), .int 0, .null]))]) (w1 := [(qs, .inr (1, [.int 0, .ref es, .int 0]))]) (tr := []) hP hK hD [1] [0] rfl rfl rfl (by decide) ht_1 hvm_1 hk_1 hF_1 [] rfl hB_1
  have hS := hS1
  have hP : va_P D vwCl [(m0, .inr (10, [.int th, .ref qu, .ref qs, .ref qc, .ref qp, .int 0, .int (-1), .int 0, .null])), (qs, .inr (1, [.int 0, .ref es, .int 0]))] H1 := hP
  have hD : va_D A [(m0, .inr (10, [.int th, .ref qu, .ref qs, .ref qc, .ref qp, .int 0, .int (-1), .int 0, .null])), (qs, .inr (1, [.int 0, .ref es, .int 0]))] := hD
  have hK : va_K D vwCl [] s := hK
  clear hS1
  obtain rfl : r_1 = 0 := hw_1
  refine lv_iconst (v := 1) hx hb dX8_move_11 (by decide) ?_
  refine lv_isub hx hb dX8_move_12 ?_
  refine lv_topi (fun x_2 ex_2 => ?_)
  obtain rfl : x_2 = (-1) := ex_2.trans (by first | rfl | decide | simp)
  refine lv_i2l (v := (-1)) hx hb dX8_move_13 (by decide) ?_
  obtain ⟨hb_3, hc_3⟩ := z_call (wc := []) (tc := []) ([.long (a0).toInt64, .long 0, .long (-1)]) hP hK hD hS hA hE hX [] rfl rfl [] rfl
  have hF_3 := va_free (wc := []) hD hS hA [] rfl
  refine va_calli (va_runS (As := [.long (a0).toInt64, .long 0, .long (-1)]) (rest := [.ref m0]) ⟨hx, hb, hml, hown, hts⟩ (c_X8_in l D ((a0).toInt64) 0 (-1) _ ) (⟨z_cB 3 hE zw_1118 zw_96 zw_1120 rfl rfl rfl (by decide +kernel) ⟨(Nat.le_of_ble_eq_true rfl), (Nat.le_of_ble_eq_true rfl)⟩, hE.ts _ zw_1119⟩) ⟨hb_3, hc_3⟩ rfl rfl hl.1 rfl (lv_room (Nat.le_of_ble_eq_true rfl)) dX8_move_14 ⟨(Nat.le_of_ble_eq_true rfl), (Nat.le_of_ble_eq_true rfl)⟩) hS (fun q _ h => hF_3 q h) hF_3 (fun r_3 u_3 t_3 H1 locs ht_3 hvm_3 hw_3 hB_3 hz_3 hk_3 hS1 => ?_)
  obtain ⟨hP, hK, hD⟩ := z_back (wc := []) (wr := [(m0, .inr (10, [.int th, .ref qu, .ref qs, .ref qc, .ref qp, .int 0, .int (-1), .int 0, .null])), (qs, .inr (1, [.int 0, .ref es, .int 0]))]) (w1 := []) (tr := []) hP hK hD [] [0, 1] rfl rfl rfl (by decide) ht_3 hvm_3 hk_3 hF_3 [] rfl hB_3
  have hS := hS1
  have hP : va_P D vwCl [(m0, .inr (10, [.int th, .ref qu, .ref qs, .ref qc, .ref qp, .int 0, .int (-1), .int 0, .null])), (qs, .inr (1, [.int 0, .ref es, .int 0]))] H1 := hP
  have hD : va_D A [(m0, .inr (10, [.int th, .ref qu, .ref qs, .ref qc, .ref qp, .int 0, .int (-1), .int 0, .null])), (qs, .inr (1, [.int 0, .ref es, .int 0]))] := hD
  have hK : va_K D vwCl [] s := hK
  clear hS1
  obtain rfl : r_3 = 0 := z_in0 hw_3
  refine lv_if_eq (tgt := 32) hx hb dX8_move_17 (by decide) (fun c_4 => ?_) (fun c_4 => absurd (by decide) c_4)
  refine lv_iconst (v := 1) hx hb dX8_move_32 (by decide) ?_
  refine va_put (D := D) (ci := 10) (v := .int 1) (ty := .int) (C := RX8) (T := TX8) (N := 9) hx hb hts zin_X8 tyX8 tyX8_ok nmX8 hown hK hP hD hS 0 rfl rfl 0 (by decide) (hts _ zw_1080) (fun _ h9 => h9) rfl (by decide +kernel) rfl rfl (Nat.le_of_ble_eq_true rfl) dX8_move_33 (fun H locs hP hD hS => ?_)
  have hP : va_P D vwCl [(m0, .inr (10, [.int 1, .ref qu, .ref qs, .ref qc, .ref qp, .int 0, .int (-1), .int 0, .null])), (qs, .inr (1, [.int 0, .ref es, .int 0]))] H := hP
  have hD : va_D A [(m0, .inr (10, [.int 1, .ref qu, .ref qs, .ref qc, .ref qp, .int 0, .int (-1), .int 0, .null])), (qs, .inr (1, [.int 0, .ref es, .int 0]))] := hD
  refine lv_aload_n hx hb dX8_move_36 rfl (lv_at hl 0 rfl) ?_
  refine va_get (D := D) (ci := 10) (v := .int 1) (C := RX8) (T := TX8) (N := 9) hx hb hts zin_X8 hown hK hP 0 rfl rfl 0 (by decide) (hts _ zw_1080) (fun _ h9 => h9) rfl dX8_move_37 ?_
  refine lv_if_le (tgt := 45) hx hb dX8_move_40 (by decide) (fun c_5 => absurd c_5 (by decide)) (fun c_5 => ?_)
  refine lv_iconst (v := 0) hx hb dX8_move_43 (by decide) ?_
  exact W.iret (v := 0) hx hb hr (fun t ht hW => ⟨⟨0, (), rfl, trivial, z_end hP hK hD [0, 1] rfl rfl [] rfl ht hW.alike⟩, hS.F ht⟩) hS.2.2 dX8_move_44
theorem dX8_toStall_0 : decode cX8_toStall 0 = .ok (.aload_n 0, 1) := by decide +kernel
theorem dX8_toStall_1 : decode cX8_toStall 1 = .ok (.iload_n 1, 1) := by decide +kernel
theorem dX8_toStall_2 : decode cX8_toStall 2 = .ok (.invokevirtual 169, 3) := by decide +kernel
theorem dX8_toStall_5 : decode cX8_toStall 5 = .ok (.ifCond .eq 5, 3) := by decide +kernel
theorem dX8_toStall_8 : decode cX8_toStall 8 = .ok (.iconst 0, 1) := by decide +kernel
theorem dX8_toStall_9 : decode cX8_toStall 9 = .ok (.ireturn, 1) := by decide +kernel
set_option maxHeartbeats 4000000 in
set_option maxRecDepth 100000 in
theorem f_X8_toStall (l : Launch) (D : va_G) (m0 : Nat) (qu : Nat) (qs : Nat) (qc : Nat) (qp : Nat) (th : Int32) (es : Nat) (a0 : Int32) (sz : Nat)  : Met l yX8_toStall [Cond.code yX8_toStall cX8_toStall 3 (some .int)] ({ frames := 6, cells := 0, slots := 0, locals := 200 }) (z_Pc D [.ref m0, .int a0] [(m0, .inr (10, [.int th, .ref qu, .ref qs, .ref qc, .ref qp, .int 0, .int (-1), .int 0, .null])), (qs, .inr (1, [.int 0, .ref es, .int 0]))] [] sz) (va_Qi (fun (r : Int32) (_ : Unit) => True) (fun _ t => z_W D [(m0, .inr (10, [.int 1, .ref qu, .ref qs, .ref qc, .ref qp, .int 0, .int (-1), .int 0, .null])), (qs, .inr (1, [.int 0, .ref es, .int 0]))] [] (va_A [(m0, .inr (10, [.int th, .ref qu, .ref qs, .ref qc, .ref qp, .int 0, .int (-1), .int 0, .null])), (qs, .inr (1, [.int 0, .ref es, .int 0]))] sz) t) (va_A [(m0, .inr (10, [.int th, .ref qu, .ref qs, .ref qc, .ref qp, .int 0, .int (-1), .int 0, .null])), (qs, .inr (1, [.int 0, .ref es, .int 0]))] sz)) 0 0 (va_A [(m0, .inr (10, [.int th, .ref qu, .ref qs, .ref qc, .ref qp, .int 0, .int (-1), .int 0, .null])), (qs, .inr (1, [.int 0, .ref es, .int 0]))] sz) := by
  refine Met.ofW (cc := cX8_toStall) (maxL := 3) (ret := (some .int)) (by decide +kernel) rfl ?_
  intro p e s m args below meth c s₁ B hml hv
  obtain ⟨rfl, hsz, hP, hK, hD0, hE, hX0⟩ := hv
  have hx := B.exec
  have hb := B.bytes
  have hr := B.returns
  have hts := z_E.ts (args := [.ref m0, .int a0].toArray) hE
  have hown : s.vm.findClass RX8 = some m.cls := findClass_of_methodNamed B.named
  have hlocks := B.notSynchronized
  subst hsz
  have hD := hD0.self (sz := s.heap.size)
  generalize hAe : va_A [(m0, .inr (10, [.int th, .ref qu, .ref qs, .ref qc, .ref qp, .int 0, .int (-1), .int 0, .null])), (qs, .inr (1, [.int 0, .ref es, .int 0]))] s.heap.size = A at hD hX0 ⊢
  have hX : z_X D A s s.heap := hX0
  have hA : ∀ q : Nat, s.heap.size ≤ q → A q := fun q h => by rw [← hAe]; exact Or.inr h
  have hS : va_S A s.heap s.heap [] := va_S.rf
  have hP : va_P D vwCl [(m0, .inr (10, [.int th, .ref qu, .ref qs, .ref qc, .ref qp, .int 0, .int (-1), .int 0, .null])), (qs, .inr (1, [.int 0, .ref es, .int 0]))] s.heap := hP
  have hl := lv_entry ([.ref m0, .int a0]) (n := 3) (Nat.le_of_ble_eq_true rfl)
  rw [lg_entry_eq]
  generalize (lg_sl ([.ref m0, .int a0]) ++ List.replicate (3 - (lg_sl ([.ref m0, .int a0])).length) Slot.unset).toArray = ls at hl ⊢
  have hl : lv_has ls 3 [(0, .ref m0), (1, .int a0)] := hl
  skip
  refine lv_aload_n hx hb dX8_toStall_0 rfl (lv_at hl 0 rfl) ?_
  refine lv_iload_n hx hb dX8_toStall_1 rfl (lv_at hl 1 rfl) ?_
  obtain ⟨hb_1, hc_1⟩ := z_call (wc := [(m0, .inr (10, [.int th, .ref qu, .ref qs, .ref qc, .ref qp, .int 0, .int (-1), .int 0, .null])), (qs, .inr (1, [.int 0, .ref es, .int 0]))]) (tc := []) ([.ref m0, .int a0]) hP hK hD hS hA hE hX [0, 1] rfl rfl [] rfl
  have hF_1 := va_free (wc := [(m0, .inr (10, [.int th, .ref qu, .ref qs, .ref qc, .ref qp, .int 0, .int (-1), .int 0, .null])), (qs, .inr (1, [.int 0, .ref es, .int 0]))]) hD hS hA [0, 1] rfl
  refine va_calli (va_runV (As := [.int a0]) (rest := []) ⟨hx, hb, hml, hown, hts⟩ (f_X8_noShop l D m0 qu qs qc qp th es a0 _ ) (z_cV 1 hE zw_1464 zw_1466 zw_74 zw_96 zw_1467 rfl rfl rfl (by decide +kernel) ⟨(Nat.le_of_ble_eq_true rfl), (Nat.le_of_ble_eq_true rfl)⟩) ⟨hb_1, va_recv hK hP (ci := 10) (q0 := 0) rfl rfl, hc_1⟩ rfl rfl hl.1 rfl (lv_room (Nat.le_of_ble_eq_true rfl)) dX8_toStall_2 ⟨(Nat.le_of_ble_eq_true rfl), (Nat.le_of_ble_eq_true rfl)⟩) hS (fun q _ h => hF_1 q h) hF_1 (fun r_1 u_1 t_1 H1 locs ht_1 hvm_1 hw_1 hB_1 hz_1 hk_1 hS1 => ?_)
  obtain ⟨hP, hK, hD⟩ := z_back (wc := [(m0, .inr (10, [.int th, .ref qu, .ref qs, .ref qc, .ref qp, .int 0, .int (-1), .int 0, .null])), (qs, .inr (1, [.int 0, .ref es, .int 0]))]) (wr := []) (w1 := [(m0, .inr (10, [.int 1, .ref qu, .ref qs, .ref qc, .ref qp, .int 0, .int (-1), .int 0, .null])), (qs, .inr (1, [.int 0, .ref es, .int 0]))]) (tr := []) hP hK hD [0, 1] [] rfl rfl rfl (by decide) ht_1 hvm_1 hk_1 hF_1 [] rfl hB_1
  have hS := hS1
  have hP : va_P D vwCl [(m0, .inr (10, [.int 1, .ref qu, .ref qs, .ref qc, .ref qp, .int 0, .int (-1), .int 0, .null])), (qs, .inr (1, [.int 0, .ref es, .int 0]))] H1 := hP
  have hD : va_D A [(m0, .inr (10, [.int 1, .ref qu, .ref qs, .ref qc, .ref qp, .int 0, .int (-1), .int 0, .null])), (qs, .inr (1, [.int 0, .ref es, .int 0]))] := hD
  have hK : va_K D vwCl [] s := hK
  clear hS1
  obtain rfl : r_1 = 1 := hw_1
  refine lv_if_eq (tgt := 10) hx hb dX8_toStall_5 (by decide) (fun c_2 => absurd c_2 (by decide)) (fun c_2 => ?_)
  refine lv_iconst (v := 0) hx hb dX8_toStall_8 (by decide) ?_
  exact W.iret (v := 0) hx hb hr (fun t ht hW => ⟨⟨0, (), rfl, trivial, z_end hP hK hD [0, 1] rfl rfl [] rfl ht hW.alike⟩, hS.F ht⟩) hS.2.2 dX8_toStall_9
theorem dX8_store_0 : decode cX8_store 0 = .ok (.aload_n 0, 1) := by decide +kernel
theorem dX8_store_1 : decode cX8_store 1 = .ok (.iload_n 1, 1) := by decide +kernel
theorem dX8_store_2 : decode cX8_store 2 = .ok (.invokevirtual 169, 3) := by decide +kernel
theorem dX8_store_5 : decode cX8_store 5 = .ok (.ifCond .eq 5, 3) := by decide +kernel
theorem dX8_store_8 : decode cX8_store 8 = .ok (.iconst 0, 1) := by decide +kernel
theorem dX8_store_9 : decode cX8_store 9 = .ok (.ireturn, 1) := by decide +kernel
set_option maxHeartbeats 4000000 in
set_option maxRecDepth 100000 in
theorem f_X8_store (l : Launch) (D : va_G) (m0 : Nat) (qu : Nat) (qs : Nat) (qc : Nat) (qp : Nat) (th : Int32) (es : Nat) (a0 : Int32) (sz : Nat)  : Met l yX8_store [Cond.code yX8_store cX8_store 3 (some .int)] ({ frames := 6, cells := 0, slots := 0, locals := 200 }) (z_Pc D [.ref m0, .int a0] [(m0, .inr (10, [.int th, .ref qu, .ref qs, .ref qc, .ref qp, .int 0, .int (-1), .int 0, .null])), (qs, .inr (1, [.int 0, .ref es, .int 0]))] [] sz) (va_Qi (fun (r : Int32) (_ : Unit) => True) (fun _ t => z_W D [(m0, .inr (10, [.int 1, .ref qu, .ref qs, .ref qc, .ref qp, .int 0, .int (-1), .int 0, .null])), (qs, .inr (1, [.int 0, .ref es, .int 0]))] [] (va_A [(m0, .inr (10, [.int th, .ref qu, .ref qs, .ref qc, .ref qp, .int 0, .int (-1), .int 0, .null])), (qs, .inr (1, [.int 0, .ref es, .int 0]))] sz) t) (va_A [(m0, .inr (10, [.int th, .ref qu, .ref qs, .ref qc, .ref qp, .int 0, .int (-1), .int 0, .null])), (qs, .inr (1, [.int 0, .ref es, .int 0]))] sz)) 0 0 (va_A [(m0, .inr (10, [.int th, .ref qu, .ref qs, .ref qc, .ref qp, .int 0, .int (-1), .int 0, .null])), (qs, .inr (1, [.int 0, .ref es, .int 0]))] sz) := by
  refine Met.ofW (cc := cX8_store) (maxL := 3) (ret := (some .int)) (by decide +kernel) rfl ?_
  intro p e s m args below meth c s₁ B hml hv
  obtain ⟨rfl, hsz, hP, hK, hD0, hE, hX0⟩ := hv
  have hx := B.exec
  have hb := B.bytes
  have hr := B.returns
  have hts := z_E.ts (args := [.ref m0, .int a0].toArray) hE
  have hown : s.vm.findClass RX8 = some m.cls := findClass_of_methodNamed B.named
  have hlocks := B.notSynchronized
  subst hsz
  have hD := hD0.self (sz := s.heap.size)
  generalize hAe : va_A [(m0, .inr (10, [.int th, .ref qu, .ref qs, .ref qc, .ref qp, .int 0, .int (-1), .int 0, .null])), (qs, .inr (1, [.int 0, .ref es, .int 0]))] s.heap.size = A at hD hX0 ⊢
  have hX : z_X D A s s.heap := hX0
  have hA : ∀ q : Nat, s.heap.size ≤ q → A q := fun q h => by rw [← hAe]; exact Or.inr h
  have hS : va_S A s.heap s.heap [] := va_S.rf
  have hP : va_P D vwCl [(m0, .inr (10, [.int th, .ref qu, .ref qs, .ref qc, .ref qp, .int 0, .int (-1), .int 0, .null])), (qs, .inr (1, [.int 0, .ref es, .int 0]))] s.heap := hP
  have hl := lv_entry ([.ref m0, .int a0]) (n := 3) (Nat.le_of_ble_eq_true rfl)
  rw [lg_entry_eq]
  generalize (lg_sl ([.ref m0, .int a0]) ++ List.replicate (3 - (lg_sl ([.ref m0, .int a0])).length) Slot.unset).toArray = ls at hl ⊢
  have hl : lv_has ls 3 [(0, .ref m0), (1, .int a0)] := hl
  skip
  refine lv_aload_n hx hb dX8_store_0 rfl (lv_at hl 0 rfl) ?_
  refine lv_iload_n hx hb dX8_store_1 rfl (lv_at hl 1 rfl) ?_
  obtain ⟨hb_1, hc_1⟩ := z_call (wc := [(m0, .inr (10, [.int th, .ref qu, .ref qs, .ref qc, .ref qp, .int 0, .int (-1), .int 0, .null])), (qs, .inr (1, [.int 0, .ref es, .int 0]))]) (tc := []) ([.ref m0, .int a0]) hP hK hD hS hA hE hX [0, 1] rfl rfl [] rfl
  have hF_1 := va_free (wc := [(m0, .inr (10, [.int th, .ref qu, .ref qs, .ref qc, .ref qp, .int 0, .int (-1), .int 0, .null])), (qs, .inr (1, [.int 0, .ref es, .int 0]))]) hD hS hA [0, 1] rfl
  refine va_calli (va_runV (As := [.int a0]) (rest := []) ⟨hx, hb, hml, hown, hts⟩ (f_X8_noShop l D m0 qu qs qc qp th es a0 _ ) (z_cV 1 hE zw_1464 zw_1466 zw_74 zw_96 zw_1467 rfl rfl rfl (by decide +kernel) ⟨(Nat.le_of_ble_eq_true rfl), (Nat.le_of_ble_eq_true rfl)⟩) ⟨hb_1, va_recv hK hP (ci := 10) (q0 := 0) rfl rfl, hc_1⟩ rfl rfl hl.1 rfl (lv_room (Nat.le_of_ble_eq_true rfl)) dX8_store_2 ⟨(Nat.le_of_ble_eq_true rfl), (Nat.le_of_ble_eq_true rfl)⟩) hS (fun q _ h => hF_1 q h) hF_1 (fun r_1 u_1 t_1 H1 locs ht_1 hvm_1 hw_1 hB_1 hz_1 hk_1 hS1 => ?_)
  obtain ⟨hP, hK, hD⟩ := z_back (wc := [(m0, .inr (10, [.int th, .ref qu, .ref qs, .ref qc, .ref qp, .int 0, .int (-1), .int 0, .null])), (qs, .inr (1, [.int 0, .ref es, .int 0]))]) (wr := []) (w1 := [(m0, .inr (10, [.int 1, .ref qu, .ref qs, .ref qc, .ref qp, .int 0, .int (-1), .int 0, .null])), (qs, .inr (1, [.int 0, .ref es, .int 0]))]) (tr := []) hP hK hD [0, 1] [] rfl rfl rfl (by decide) ht_1 hvm_1 hk_1 hF_1 [] rfl hB_1
  have hS := hS1
  have hP : va_P D vwCl [(m0, .inr (10, [.int 1, .ref qu, .ref qs, .ref qc, .ref qp, .int 0, .int (-1), .int 0, .null])), (qs, .inr (1, [.int 0, .ref es, .int 0]))] H1 := hP
  have hD : va_D A [(m0, .inr (10, [.int 1, .ref qu, .ref qs, .ref qc, .ref qp, .int 0, .int (-1), .int 0, .null])), (qs, .inr (1, [.int 0, .ref es, .int 0]))] := hD
  have hK : va_K D vwCl [] s := hK
  clear hS1
  obtain rfl : r_1 = 1 := hw_1
  refine lv_if_eq (tgt := 10) hx hb dX8_store_5 (by decide) (fun c_2 => absurd c_2 (by decide)) (fun c_2 => ?_)
  refine lv_iconst (v := 0) hx hb dX8_store_8 (by decide) ?_
  exact W.iret (v := 0) hx hb hr (fun t ht hW => ⟨⟨0, (), rfl, trivial, z_end hP hK hD [0, 1] rfl rfl [] rfl ht hW.alike⟩, hS.F ht⟩) hS.2.2 dX8_store_9
theorem dX8_comes_0 : decode cX8_comes 0 = .ok (.aload_n 0, 1) := by decide +kernel
theorem dX8_comes_1 : decode cX8_comes 1 = .ok (.iload_n 1, 1) := by decide +kernel
theorem dX8_comes_2 : decode cX8_comes 2 = .ok (.invokevirtual 169, 3) := by decide +kernel
theorem dX8_comes_5 : decode cX8_comes 5 = .ok (.ifCond .ne 24, 3) := by decide +kernel
theorem dX8_comes_29 : decode cX8_comes 29 = .ok (.iconst 0, 1) := by decide +kernel
theorem dX8_comes_30 : decode cX8_comes 30 = .ok (.ireturn, 1) := by decide +kernel
set_option maxHeartbeats 4000000 in
set_option maxRecDepth 100000 in
theorem f_X8_comes (l : Launch) (D : va_G) (m0 : Nat) (qu : Nat) (qs : Nat) (qc : Nat) (qp : Nat) (th : Int32) (es : Nat) (a0 : Int32) (sz : Nat)  : Met l yX8_comes [Cond.code yX8_comes cX8_comes 2 (some .boolean)] ({ frames := 6, cells := 0, slots := 0, locals := 200 }) (z_Pc D [.ref m0, .int a0] [(m0, .inr (10, [.int th, .ref qu, .ref qs, .ref qc, .ref qp, .int 0, .int (-1), .int 0, .null])), (qs, .inr (1, [.int 0, .ref es, .int 0]))] [] sz) (va_Qi (fun (r : Int32) (_ : Unit) => True) (fun _ t => z_W D [(m0, .inr (10, [.int 1, .ref qu, .ref qs, .ref qc, .ref qp, .int 0, .int (-1), .int 0, .null])), (qs, .inr (1, [.int 0, .ref es, .int 0]))] [] (va_A [(m0, .inr (10, [.int th, .ref qu, .ref qs, .ref qc, .ref qp, .int 0, .int (-1), .int 0, .null])), (qs, .inr (1, [.int 0, .ref es, .int 0]))] sz) t) (va_A [(m0, .inr (10, [.int th, .ref qu, .ref qs, .ref qc, .ref qp, .int 0, .int (-1), .int 0, .null])), (qs, .inr (1, [.int 0, .ref es, .int 0]))] sz)) 0 0 (va_A [(m0, .inr (10, [.int th, .ref qu, .ref qs, .ref qc, .ref qp, .int 0, .int (-1), .int 0, .null])), (qs, .inr (1, [.int 0, .ref es, .int 0]))] sz) := by
  refine Met.ofW (cc := cX8_comes) (maxL := 2) (ret := (some .boolean)) (by decide +kernel) rfl ?_
  intro p e s m args below meth c s₁ B hml hv
  obtain ⟨rfl, hsz, hP, hK, hD0, hE, hX0⟩ := hv
  have hx := B.exec
  have hb := B.bytes
  have hr := B.returns
  have hts := z_E.ts (args := [.ref m0, .int a0].toArray) hE
  have hown : s.vm.findClass RX8 = some m.cls := findClass_of_methodNamed B.named
  have hlocks := B.notSynchronized
  subst hsz
  have hD := hD0.self (sz := s.heap.size)
  generalize hAe : va_A [(m0, .inr (10, [.int th, .ref qu, .ref qs, .ref qc, .ref qp, .int 0, .int (-1), .int 0, .null])), (qs, .inr (1, [.int 0, .ref es, .int 0]))] s.heap.size = A at hD hX0 ⊢
  have hX : z_X D A s s.heap := hX0
  have hA : ∀ q : Nat, s.heap.size ≤ q → A q := fun q h => by rw [← hAe]; exact Or.inr h
  have hS : va_S A s.heap s.heap [] := va_S.rf
  have hP : va_P D vwCl [(m0, .inr (10, [.int th, .ref qu, .ref qs, .ref qc, .ref qp, .int 0, .int (-1), .int 0, .null])), (qs, .inr (1, [.int 0, .ref es, .int 0]))] s.heap := hP
  have hl := lv_entry ([.ref m0, .int a0]) (n := 2) (Nat.le_of_ble_eq_true rfl)
  rw [lg_entry_eq]
  generalize (lg_sl ([.ref m0, .int a0]) ++ List.replicate (2 - (lg_sl ([.ref m0, .int a0])).length) Slot.unset).toArray = ls at hl ⊢
  have hl : lv_has ls 2 [(0, .ref m0), (1, .int a0)] := hl
  skip
  refine lv_aload_n hx hb dX8_comes_0 rfl (lv_at hl 0 rfl) ?_
  refine lv_iload_n hx hb dX8_comes_1 rfl (lv_at hl 1 rfl) ?_
  obtain ⟨hb_1, hc_1⟩ := z_call (wc := [(m0, .inr (10, [.int th, .ref qu, .ref qs, .ref qc, .ref qp, .int 0, .int (-1), .int 0, .null])), (qs, .inr (1, [.int 0, .ref es, .int 0]))]) (tc := []) ([.ref m0, .int a0]) hP hK hD hS hA hE hX [0, 1] rfl rfl [] rfl
  have hF_1 := va_free (wc := [(m0, .inr (10, [.int th, .ref qu, .ref qs, .ref qc, .ref qp, .int 0, .int (-1), .int 0, .null])), (qs, .inr (1, [.int 0, .ref es, .int 0]))]) hD hS hA [0, 1] rfl
  refine va_calli (va_runV (As := [.int a0]) (rest := []) ⟨hx, hb, hml, hown, hts⟩ (f_X8_noShop l D m0 qu qs qc qp th es a0 _ ) (z_cV 1 hE zw_1464 zw_1466 zw_74 zw_96 zw_1467 rfl rfl rfl (by decide +kernel) ⟨(Nat.le_of_ble_eq_true rfl), (Nat.le_of_ble_eq_true rfl)⟩) ⟨hb_1, va_recv hK hP (ci := 10) (q0 := 0) rfl rfl, hc_1⟩ rfl rfl hl.1 rfl (lv_room (Nat.le_of_ble_eq_true rfl)) dX8_comes_2 ⟨(Nat.le_of_ble_eq_true rfl), (Nat.le_of_ble_eq_true rfl)⟩) hS (fun q _ h => hF_1 q h) hF_1 (fun r_1 u_1 t_1 H1 locs ht_1 hvm_1 hw_1 hB_1 hz_1 hk_1 hS1 => ?_)
  obtain ⟨hP, hK, hD⟩ := z_back (wc := [(m0, .inr (10, [.int th, .ref qu, .ref qs, .ref qc, .ref qp, .int 0, .int (-1), .int 0, .null])), (qs, .inr (1, [.int 0, .ref es, .int 0]))]) (wr := []) (w1 := [(m0, .inr (10, [.int 1, .ref qu, .ref qs, .ref qc, .ref qp, .int 0, .int (-1), .int 0, .null])), (qs, .inr (1, [.int 0, .ref es, .int 0]))]) (tr := []) hP hK hD [0, 1] [] rfl rfl rfl (by decide) ht_1 hvm_1 hk_1 hF_1 [] rfl hB_1
  have hS := hS1
  have hP : va_P D vwCl [(m0, .inr (10, [.int 1, .ref qu, .ref qs, .ref qc, .ref qp, .int 0, .int (-1), .int 0, .null])), (qs, .inr (1, [.int 0, .ref es, .int 0]))] H1 := hP
  have hD : va_D A [(m0, .inr (10, [.int 1, .ref qu, .ref qs, .ref qc, .ref qp, .int 0, .int (-1), .int 0, .null])), (qs, .inr (1, [.int 0, .ref es, .int 0]))] := hD
  have hK : va_K D vwCl [] s := hK
  clear hS1
  obtain rfl : r_1 = 1 := hw_1
  refine lv_if_ne (tgt := 29) hx hb dX8_comes_5 (by decide) (fun c_2 => ?_) (fun c_2 => absurd c_2 (by decide))
  refine lv_iconst (v := 0) hx hb dX8_comes_29 (by decide) ?_
  exact W.zret (v := 0) hx hb hr (by first | rfl | decide) (fun t ht hW => ⟨⟨0, (), rfl, trivial, z_end hP hK hD [0, 1] rfl rfl [] rfl ht hW.alike⟩, hS.F ht⟩) hS.2.2 dX8_comes_30
theorem dX8_mayBeShut_0 : decode cX8_mayBeShut 0 = .ok (.aload_n 0, 1) := by decide +kernel
theorem dX8_mayBeShut_1 : decode cX8_mayBeShut 1 = .ok (.iload_n 1, 1) := by decide +kernel
theorem dX8_mayBeShut_2 : decode cX8_mayBeShut 2 = .ok (.invokevirtual 169, 3) := by decide +kernel
theorem dX8_mayBeShut_5 : decode cX8_mayBeShut 5 = .ok (.ifCond .eq 7, 3) := by decide +kernel
theorem dX8_mayBeShut_8 : decode cX8_mayBeShut 8 = .ok (.iconst 0, 1) := by decide +kernel
theorem dX8_mayBeShut_9 : decode cX8_mayBeShut 9 = .ok (.goto 17, 3) := by decide +kernel
theorem dX8_mayBeShut_26 : decode cX8_mayBeShut 26 = .ok (.ireturn, 1) := by decide +kernel
set_option maxHeartbeats 4000000 in
set_option maxRecDepth 100000 in
theorem f_X8_mayBeShut (l : Launch) (D : va_G) (m0 : Nat) (qu : Nat) (qs : Nat) (qc : Nat) (qp : Nat) (th : Int32) (es : Nat) (a0 : Int32) (sz : Nat)  : Met l yX8_mayBeShut [Cond.code yX8_mayBeShut cX8_mayBeShut 2 (some .int)] ({ frames := 6, cells := 0, slots := 0, locals := 200 }) (z_Pc D [.ref m0, .int a0] [(m0, .inr (10, [.int th, .ref qu, .ref qs, .ref qc, .ref qp, .int 0, .int (-1), .int 0, .null])), (qs, .inr (1, [.int 0, .ref es, .int 0]))] [] sz) (va_Qi (fun (r : Int32) (_ : Unit) => True) (fun _ t => z_W D [(m0, .inr (10, [.int 1, .ref qu, .ref qs, .ref qc, .ref qp, .int 0, .int (-1), .int 0, .null])), (qs, .inr (1, [.int 0, .ref es, .int 0]))] [] (va_A [(m0, .inr (10, [.int th, .ref qu, .ref qs, .ref qc, .ref qp, .int 0, .int (-1), .int 0, .null])), (qs, .inr (1, [.int 0, .ref es, .int 0]))] sz) t) (va_A [(m0, .inr (10, [.int th, .ref qu, .ref qs, .ref qc, .ref qp, .int 0, .int (-1), .int 0, .null])), (qs, .inr (1, [.int 0, .ref es, .int 0]))] sz)) 0 0 (va_A [(m0, .inr (10, [.int th, .ref qu, .ref qs, .ref qc, .ref qp, .int 0, .int (-1), .int 0, .null])), (qs, .inr (1, [.int 0, .ref es, .int 0]))] sz) := by
  refine Met.ofW (cc := cX8_mayBeShut) (maxL := 2) (ret := (some .int)) (by decide +kernel) rfl ?_
  intro p e s m args below meth c s₁ B hml hv
  obtain ⟨rfl, hsz, hP, hK, hD0, hE, hX0⟩ := hv
  have hx := B.exec
  have hb := B.bytes
  have hr := B.returns
  have hts := z_E.ts (args := [.ref m0, .int a0].toArray) hE
  have hown : s.vm.findClass RX8 = some m.cls := findClass_of_methodNamed B.named
  have hlocks := B.notSynchronized
  subst hsz
  have hD := hD0.self (sz := s.heap.size)
  generalize hAe : va_A [(m0, .inr (10, [.int th, .ref qu, .ref qs, .ref qc, .ref qp, .int 0, .int (-1), .int 0, .null])), (qs, .inr (1, [.int 0, .ref es, .int 0]))] s.heap.size = A at hD hX0 ⊢
  have hX : z_X D A s s.heap := hX0
  have hA : ∀ q : Nat, s.heap.size ≤ q → A q := fun q h => by rw [← hAe]; exact Or.inr h
  have hS : va_S A s.heap s.heap [] := va_S.rf
  have hP : va_P D vwCl [(m0, .inr (10, [.int th, .ref qu, .ref qs, .ref qc, .ref qp, .int 0, .int (-1), .int 0, .null])), (qs, .inr (1, [.int 0, .ref es, .int 0]))] s.heap := hP
  have hl := lv_entry ([.ref m0, .int a0]) (n := 2) (Nat.le_of_ble_eq_true rfl)
  rw [lg_entry_eq]
  generalize (lg_sl ([.ref m0, .int a0]) ++ List.replicate (2 - (lg_sl ([.ref m0, .int a0])).length) Slot.unset).toArray = ls at hl ⊢
  have hl : lv_has ls 2 [(0, .ref m0), (1, .int a0)] := hl
  skip
  refine lv_aload_n hx hb dX8_mayBeShut_0 rfl (lv_at hl 0 rfl) ?_
  refine lv_iload_n hx hb dX8_mayBeShut_1 rfl (lv_at hl 1 rfl) ?_
  obtain ⟨hb_1, hc_1⟩ := z_call (wc := [(m0, .inr (10, [.int th, .ref qu, .ref qs, .ref qc, .ref qp, .int 0, .int (-1), .int 0, .null])), (qs, .inr (1, [.int 0, .ref es, .int 0]))]) (tc := []) ([.ref m0, .int a0]) hP hK hD hS hA hE hX [0, 1] rfl rfl [] rfl
  have hF_1 := va_free (wc := [(m0, .inr (10, [.int th, .ref qu, .ref qs, .ref qc, .ref qp, .int 0, .int (-1), .int 0, .null])), (qs, .inr (1, [.int 0, .ref es, .int 0]))]) hD hS hA [0, 1] rfl
  refine va_calli (va_runV (As := [.int a0]) (rest := []) ⟨hx, hb, hml, hown, hts⟩ (f_X8_noShop l D m0 qu qs qc qp th es a0 _ ) (z_cV 1 hE zw_1464 zw_1466 zw_74 zw_96 zw_1467 rfl rfl rfl (by decide +kernel) ⟨(Nat.le_of_ble_eq_true rfl), (Nat.le_of_ble_eq_true rfl)⟩) ⟨hb_1, va_recv hK hP (ci := 10) (q0 := 0) rfl rfl, hc_1⟩ rfl rfl hl.1 rfl (lv_room (Nat.le_of_ble_eq_true rfl)) dX8_mayBeShut_2 ⟨(Nat.le_of_ble_eq_true rfl), (Nat.le_of_ble_eq_true rfl)⟩) hS (fun q _ h => hF_1 q h) hF_1 (fun r_1 u_1 t_1 H1 locs ht_1 hvm_1 hw_1 hB_1 hz_1 hk_1 hS1 => ?_)
  obtain ⟨hP, hK, hD⟩ := z_back (wc := [(m0, .inr (10, [.int th, .ref qu, .ref qs, .ref qc, .ref qp, .int 0, .int (-1), .int 0, .null])), (qs, .inr (1, [.int 0, .ref es, .int 0]))]) (wr := []) (w1 := [(m0, .inr (10, [.int 1, .ref qu, .ref qs, .ref qc, .ref qp, .int 0, .int (-1), .int 0, .null])), (qs, .inr (1, [.int 0, .ref es, .int 0]))]) (tr := []) hP hK hD [0, 1] [] rfl rfl rfl (by decide) ht_1 hvm_1 hk_1 hF_1 [] rfl hB_1
  have hS := hS1
  have hP : va_P D vwCl [(m0, .inr (10, [.int 1, .ref qu, .ref qs, .ref qc, .ref qp, .int 0, .int (-1), .int 0, .null])), (qs, .inr (1, [.int 0, .ref es, .int 0]))] H1 := hP
  have hD : va_D A [(m0, .inr (10, [.int 1, .ref qu, .ref qs, .ref qc, .ref qp, .int 0, .int (-1), .int 0, .null])), (qs, .inr (1, [.int 0, .ref es, .int 0]))] := hD
  have hK : va_K D vwCl [] s := hK
  clear hS1
  obtain rfl : r_1 = 1 := hw_1
  refine lv_if_eq (tgt := 12) hx hb dX8_mayBeShut_5 (by decide) (fun c_2 => absurd c_2 (by decide)) (fun c_2 => ?_)
  refine lv_iconst (v := 0) hx hb dX8_mayBeShut_8 (by decide) ?_
  refine lv_goto (tgt := 26) hx hb dX8_mayBeShut_9 (by decide) ?_
  exact W.iret (v := 0) hx hb hr (fun t ht hW => ⟨⟨0, (), rfl, trivial, z_end hP hK hD [0, 1] rfl rfl [] rfl ht hW.alike⟩, hS.F ht⟩) hS.2.2 dX8_mayBeShut_26
theorem dX8_seen_0 : decode cX8_seen 0 = .ok (.aload_n 0, 1) := by decide +kernel
theorem dX8_seen_1 : decode cX8_seen 1 = .ok (.iload_n 1, 1) := by decide +kernel
theorem dX8_seen_2 : decode cX8_seen 2 = .ok (.invokevirtual 169, 3) := by decide +kernel
theorem dX8_seen_5 : decode cX8_seen 5 = .ok (.ifCond .eq 7, 3) := by decide +kernel
theorem dX8_seen_8 : decode cX8_seen 8 = .ok (.iconst 0, 1) := by decide +kernel
theorem dX8_seen_9 : decode cX8_seen 9 = .ok (.goto 18, 3) := by decide +kernel
theorem dX8_seen_27 : decode cX8_seen 27 = .ok (.ireturn, 1) := by decide +kernel
set_option maxHeartbeats 4000000 in
set_option maxRecDepth 100000 in
theorem f_X8_seen (l : Launch) (D : va_G) (m0 : Nat) (qu : Nat) (qs : Nat) (qc : Nat) (qp : Nat) (th : Int32) (es : Nat) (a0 : Int32) (sz : Nat)  : Met l yX8_seen [Cond.code yX8_seen cX8_seen 2 (some .int)] ({ frames := 6, cells := 0, slots := 0, locals := 200 }) (z_Pc D [.ref m0, .int a0] [(m0, .inr (10, [.int th, .ref qu, .ref qs, .ref qc, .ref qp, .int 0, .int (-1), .int 0, .null])), (qs, .inr (1, [.int 0, .ref es, .int 0]))] [] sz) (va_Qi (fun (r : Int32) (_ : Unit) => True) (fun _ t => z_W D [(m0, .inr (10, [.int 1, .ref qu, .ref qs, .ref qc, .ref qp, .int 0, .int (-1), .int 0, .null])), (qs, .inr (1, [.int 0, .ref es, .int 0]))] [] (va_A [(m0, .inr (10, [.int th, .ref qu, .ref qs, .ref qc, .ref qp, .int 0, .int (-1), .int 0, .null])), (qs, .inr (1, [.int 0, .ref es, .int 0]))] sz) t) (va_A [(m0, .inr (10, [.int th, .ref qu, .ref qs, .ref qc, .ref qp, .int 0, .int (-1), .int 0, .null])), (qs, .inr (1, [.int 0, .ref es, .int 0]))] sz)) 0 0 (va_A [(m0, .inr (10, [.int th, .ref qu, .ref qs, .ref qc, .ref qp, .int 0, .int (-1), .int 0, .null])), (qs, .inr (1, [.int 0, .ref es, .int 0]))] sz) := by
  refine Met.ofW (cc := cX8_seen) (maxL := 2) (ret := (some .int)) (by decide +kernel) rfl ?_
  intro p e s m args below meth c s₁ B hml hv
  obtain ⟨rfl, hsz, hP, hK, hD0, hE, hX0⟩ := hv
  have hx := B.exec
  have hb := B.bytes
  have hr := B.returns
  have hts := z_E.ts (args := [.ref m0, .int a0].toArray) hE
  have hown : s.vm.findClass RX8 = some m.cls := findClass_of_methodNamed B.named
  have hlocks := B.notSynchronized
  subst hsz
  have hD := hD0.self (sz := s.heap.size)
  generalize hAe : va_A [(m0, .inr (10, [.int th, .ref qu, .ref qs, .ref qc, .ref qp, .int 0, .int (-1), .int 0, .null])), (qs, .inr (1, [.int 0, .ref es, .int 0]))] s.heap.size = A at hD hX0 ⊢
  have hX : z_X D A s s.heap := hX0
  have hA : ∀ q : Nat, s.heap.size ≤ q → A q := fun q h => by rw [← hAe]; exact Or.inr h
  have hS : va_S A s.heap s.heap [] := va_S.rf
  have hP : va_P D vwCl [(m0, .inr (10, [.int th, .ref qu, .ref qs, .ref qc, .ref qp, .int 0, .int (-1), .int 0, .null])), (qs, .inr (1, [.int 0, .ref es, .int 0]))] s.heap := hP
  have hl := lv_entry ([.ref m0, .int a0]) (n := 2) (Nat.le_of_ble_eq_true rfl)
  rw [lg_entry_eq]
  generalize (lg_sl ([.ref m0, .int a0]) ++ List.replicate (2 - (lg_sl ([.ref m0, .int a0])).length) Slot.unset).toArray = ls at hl ⊢
  have hl : lv_has ls 2 [(0, .ref m0), (1, .int a0)] := hl
  skip
  refine lv_aload_n hx hb dX8_seen_0 rfl (lv_at hl 0 rfl) ?_
  refine lv_iload_n hx hb dX8_seen_1 rfl (lv_at hl 1 rfl) ?_
  obtain ⟨hb_1, hc_1⟩ := z_call (wc := [(m0, .inr (10, [.int th, .ref qu, .ref qs, .ref qc, .ref qp, .int 0, .int (-1), .int 0, .null])), (qs, .inr (1, [.int 0, .ref es, .int 0]))]) (tc := []) ([.ref m0, .int a0]) hP hK hD hS hA hE hX [0, 1] rfl rfl [] rfl
  have hF_1 := va_free (wc := [(m0, .inr (10, [.int th, .ref qu, .ref qs, .ref qc, .ref qp, .int 0, .int (-1), .int 0, .null])), (qs, .inr (1, [.int 0, .ref es, .int 0]))]) hD hS hA [0, 1] rfl
  refine va_calli (va_runV (As := [.int a0]) (rest := []) ⟨hx, hb, hml, hown, hts⟩ (f_X8_noShop l D m0 qu qs qc qp th es a0 _ ) (z_cV 1 hE zw_1464 zw_1466 zw_74 zw_96 zw_1467 rfl rfl rfl (by decide +kernel) ⟨(Nat.le_of_ble_eq_true rfl), (Nat.le_of_ble_eq_true rfl)⟩) ⟨hb_1, va_recv hK hP (ci := 10) (q0 := 0) rfl rfl, hc_1⟩ rfl rfl hl.1 rfl (lv_room (Nat.le_of_ble_eq_true rfl)) dX8_seen_2 ⟨(Nat.le_of_ble_eq_true rfl), (Nat.le_of_ble_eq_true rfl)⟩) hS (fun q _ h => hF_1 q h) hF_1 (fun r_1 u_1 t_1 H1 locs ht_1 hvm_1 hw_1 hB_1 hz_1 hk_1 hS1 => ?_)
  obtain ⟨hP, hK, hD⟩ := z_back (wc := [(m0, .inr (10, [.int th, .ref qu, .ref qs, .ref qc, .ref qp, .int 0, .int (-1), .int 0, .null])), (qs, .inr (1, [.int 0, .ref es, .int 0]))]) (wr := []) (w1 := [(m0, .inr (10, [.int 1, .ref qu, .ref qs, .ref qc, .ref qp, .int 0, .int (-1), .int 0, .null])), (qs, .inr (1, [.int 0, .ref es, .int 0]))]) (tr := []) hP hK hD [0, 1] [] rfl rfl rfl (by decide) ht_1 hvm_1 hk_1 hF_1 [] rfl hB_1
  have hS := hS1
  have hP : va_P D vwCl [(m0, .inr (10, [.int 1, .ref qu, .ref qs, .ref qc, .ref qp, .int 0, .int (-1), .int 0, .null])), (qs, .inr (1, [.int 0, .ref es, .int 0]))] H1 := hP
  have hD : va_D A [(m0, .inr (10, [.int 1, .ref qu, .ref qs, .ref qc, .ref qp, .int 0, .int (-1), .int 0, .null])), (qs, .inr (1, [.int 0, .ref es, .int 0]))] := hD
  have hK : va_K D vwCl [] s := hK
  clear hS1
  obtain rfl : r_1 = 1 := hw_1
  refine lv_if_eq (tgt := 12) hx hb dX8_seen_5 (by decide) (fun c_2 => absurd c_2 (by decide)) (fun c_2 => ?_)
  refine lv_iconst (v := 0) hx hb dX8_seen_8 (by decide) ?_
  refine lv_goto (tgt := 27) hx hb dX8_seen_9 (by decide) ?_
  exact W.iret (v := 0) hx hb hr (fun t ht hW => ⟨⟨0, (), rfl, trivial, z_end hP hK hD [0, 1] rfl rfl [] rfl ht hW.alike⟩, hS.F ht⟩) hS.2.2 dX8_seen_27
theorem dX8_known_0 : decode cX8_known 0 = .ok (.aload_n 0, 1) := by decide +kernel
theorem dX8_known_1 : decode cX8_known 1 = .ok (.iload_n 1, 1) := by decide +kernel
theorem dX8_known_2 : decode cX8_known 2 = .ok (.invokevirtual 169, 3) := by decide +kernel
theorem dX8_known_5 : decode cX8_known 5 = .ok (.ifCond .eq 7, 3) := by decide +kernel
theorem dX8_known_8 : decode cX8_known 8 = .ok (.iconst 0, 1) := by decide +kernel
theorem dX8_known_9 : decode cX8_known 9 = .ok (.goto 17, 3) := by decide +kernel
theorem dX8_known_26 : decode cX8_known 26 = .ok (.ireturn, 1) := by decide +kernel
set_option maxHeartbeats 4000000 in
set_option maxRecDepth 100000 in
theorem f_X8_known (l : Launch) (D : va_G) (m0 : Nat) (qu : Nat) (qs : Nat) (qc : Nat) (qp : Nat) (th : Int32) (es : Nat) (a0 : Int32) (sz : Nat)  : Met l yX8_known [Cond.code yX8_known cX8_known 2 (some .int)] ({ frames := 6, cells := 0, slots := 0, locals := 200 }) (z_Pc D [.ref m0, .int a0] [(m0, .inr (10, [.int th, .ref qu, .ref qs, .ref qc, .ref qp, .int 0, .int (-1), .int 0, .null])), (qs, .inr (1, [.int 0, .ref es, .int 0]))] [] sz) (va_Qi (fun (r : Int32) (_ : Unit) => True) (fun _ t => z_W D [(m0, .inr (10, [.int 1, .ref qu, .ref qs, .ref qc, .ref qp, .int 0, .int (-1), .int 0, .null])), (qs, .inr (1, [.int 0, .ref es, .int 0]))] [] (va_A [(m0, .inr (10, [.int th, .ref qu, .ref qs, .ref qc, .ref qp, .int 0, .int (-1), .int 0, .null])), (qs, .inr (1, [.int 0, .ref es, .int 0]))] sz) t) (va_A [(m0, .inr (10, [.int th, .ref qu, .ref qs, .ref qc, .ref qp, .int 0, .int (-1), .int 0, .null])), (qs, .inr (1, [.int 0, .ref es, .int 0]))] sz)) 0 0 (va_A [(m0, .inr (10, [.int th, .ref qu, .ref qs, .ref qc, .ref qp, .int 0, .int (-1), .int 0, .null])), (qs, .inr (1, [.int 0, .ref es, .int 0]))] sz) := by
  refine Met.ofW (cc := cX8_known) (maxL := 2) (ret := (some .int)) (by decide +kernel) rfl ?_
  intro p e s m args below meth c s₁ B hml hv
  obtain ⟨rfl, hsz, hP, hK, hD0, hE, hX0⟩ := hv
  have hx := B.exec
  have hb := B.bytes
  have hr := B.returns
  have hts := z_E.ts (args := [.ref m0, .int a0].toArray) hE
  have hown : s.vm.findClass RX8 = some m.cls := findClass_of_methodNamed B.named
  have hlocks := B.notSynchronized
  subst hsz
  have hD := hD0.self (sz := s.heap.size)
  generalize hAe : va_A [(m0, .inr (10, [.int th, .ref qu, .ref qs, .ref qc, .ref qp, .int 0, .int (-1), .int 0, .null])), (qs, .inr (1, [.int 0, .ref es, .int 0]))] s.heap.size = A at hD hX0 ⊢
  have hX : z_X D A s s.heap := hX0
  have hA : ∀ q : Nat, s.heap.size ≤ q → A q := fun q h => by rw [← hAe]; exact Or.inr h
  have hS : va_S A s.heap s.heap [] := va_S.rf
  have hP : va_P D vwCl [(m0, .inr (10, [.int th, .ref qu, .ref qs, .ref qc, .ref qp, .int 0, .int (-1), .int 0, .null])), (qs, .inr (1, [.int 0, .ref es, .int 0]))] s.heap := hP
  have hl := lv_entry ([.ref m0, .int a0]) (n := 2) (Nat.le_of_ble_eq_true rfl)
  rw [lg_entry_eq]
  generalize (lg_sl ([.ref m0, .int a0]) ++ List.replicate (2 - (lg_sl ([.ref m0, .int a0])).length) Slot.unset).toArray = ls at hl ⊢
  have hl : lv_has ls 2 [(0, .ref m0), (1, .int a0)] := hl
  skip
  refine lv_aload_n hx hb dX8_known_0 rfl (lv_at hl 0 rfl) ?_
  refine lv_iload_n hx hb dX8_known_1 rfl (lv_at hl 1 rfl) ?_
  obtain ⟨hb_1, hc_1⟩ := z_call (wc := [(m0, .inr (10, [.int th, .ref qu, .ref qs, .ref qc, .ref qp, .int 0, .int (-1), .int 0, .null])), (qs, .inr (1, [.int 0, .ref es, .int 0]))]) (tc := []) ([.ref m0, .int a0]) hP hK hD hS hA hE hX [0, 1] rfl rfl [] rfl
  have hF_1 := va_free (wc := [(m0, .inr (10, [.int th, .ref qu, .ref qs, .ref qc, .ref qp, .int 0, .int (-1), .int 0, .null])), (qs, .inr (1, [.int 0, .ref es, .int 0]))]) hD hS hA [0, 1] rfl
  refine va_calli (va_runV (As := [.int a0]) (rest := []) ⟨hx, hb, hml, hown, hts⟩ (f_X8_noShop l D m0 qu qs qc qp th es a0 _ ) (z_cV 1 hE zw_1464 zw_1466 zw_74 zw_96 zw_1467 rfl rfl rfl (by decide +kernel) ⟨(Nat.le_of_ble_eq_true rfl), (Nat.le_of_ble_eq_true rfl)⟩) ⟨hb_1, va_recv hK hP (ci := 10) (q0 := 0) rfl rfl, hc_1⟩ rfl rfl hl.1 rfl (lv_room (Nat.le_of_ble_eq_true rfl)) dX8_known_2 ⟨(Nat.le_of_ble_eq_true rfl), (Nat.le_of_ble_eq_true rfl)⟩) hS (fun q _ h => hF_1 q h) hF_1 (fun r_1 u_1 t_1 H1 locs ht_1 hvm_1 hw_1 hB_1 hz_1 hk_1 hS1 => ?_)
  obtain ⟨hP, hK, hD⟩ := z_back (wc := [(m0, .inr (10, [.int th, .ref qu, .ref qs, .ref qc, .ref qp, .int 0, .int (-1), .int 0, .null])), (qs, .inr (1, [.int 0, .ref es, .int 0]))]) (wr := []) (w1 := [(m0, .inr (10, [.int 1, .ref qu, .ref qs, .ref qc, .ref qp, .int 0, .int (-1), .int 0, .null])), (qs, .inr (1, [.int 0, .ref es, .int 0]))]) (tr := []) hP hK hD [0, 1] [] rfl rfl rfl (by decide) ht_1 hvm_1 hk_1 hF_1 [] rfl hB_1
  have hS := hS1
  have hP : va_P D vwCl [(m0, .inr (10, [.int 1, .ref qu, .ref qs, .ref qc, .ref qp, .int 0, .int (-1), .int 0, .null])), (qs, .inr (1, [.int 0, .ref es, .int 0]))] H1 := hP
  have hD : va_D A [(m0, .inr (10, [.int 1, .ref qu, .ref qs, .ref qc, .ref qp, .int 0, .int (-1), .int 0, .null])), (qs, .inr (1, [.int 0, .ref es, .int 0]))] := hD
  have hK : va_K D vwCl [] s := hK
  clear hS1
  obtain rfl : r_1 = 1 := hw_1
  refine lv_if_eq (tgt := 12) hx hb dX8_known_5 (by decide) (fun c_2 => absurd c_2 (by decide)) (fun c_2 => ?_)
  refine lv_iconst (v := 0) hx hb dX8_known_8 (by decide) ?_
  refine lv_goto (tgt := 26) hx hb dX8_known_9 (by decide) ?_
  exact W.iret (v := 0) hx hb hr (fun t ht hW => ⟨⟨0, (), rfl, trivial, z_end hP hK hD [0, 1] rfl rfl [] rfl ht hW.alike⟩, hS.F ht⟩) hS.2.2 dX8_known_26
theorem dX8_isDusty_0 : decode cX8_isDusty 0 = .ok (.aload_n 0, 1) := by decide +kernel
theorem dX8_isDusty_1 : decode cX8_isDusty 1 = .ok (.iload_n 1, 1) := by decide +kernel
theorem dX8_isDusty_2 : decode cX8_isDusty 2 = .ok (.invokevirtual 169, 3) := by decide +kernel
theorem dX8_isDusty_5 : decode cX8_isDusty 5 = .ok (.ifCond .ne 25, 3) := by decide +kernel
theorem dX8_isDusty_30 : decode cX8_isDusty 30 = .ok (.iconst 0, 1) := by decide +kernel
theorem dX8_isDusty_31 : decode cX8_isDusty 31 = .ok (.ireturn, 1) := by decide +kernel
set_option maxHeartbeats 4000000 in
set_option maxRecDepth 100000 in
theorem f_X8_isDusty (l : Launch) (D : va_G) (m0 : Nat) (qu : Nat) (qs : Nat) (qc : Nat) (qp : Nat) (th : Int32) (es : Nat) (a0 : Int32) (sz : Nat)  : Met l yX8_isDusty [Cond.code yX8_isDusty cX8_isDusty 2 (some .boolean)] ({ frames := 6, cells := 0, slots := 0, locals := 200 }) (z_Pc D [.ref m0, .int a0] [(m0, .inr (10, [.int th, .ref qu, .ref qs, .ref qc, .ref qp, .int 0, .int (-1), .int 0, .null])), (qs, .inr (1, [.int 0, .ref es, .int 0]))] [] sz) (va_Qi (fun (r : Int32) (_ : Unit) => True) (fun _ t => z_W D [(m0, .inr (10, [.int 1, .ref qu, .ref qs, .ref qc, .ref qp, .int 0, .int (-1), .int 0, .null])), (qs, .inr (1, [.int 0, .ref es, .int 0]))] [] (va_A [(m0, .inr (10, [.int th, .ref qu, .ref qs, .ref qc, .ref qp, .int 0, .int (-1), .int 0, .null])), (qs, .inr (1, [.int 0, .ref es, .int 0]))] sz) t) (va_A [(m0, .inr (10, [.int th, .ref qu, .ref qs, .ref qc, .ref qp, .int 0, .int (-1), .int 0, .null])), (qs, .inr (1, [.int 0, .ref es, .int 0]))] sz)) 0 0 (va_A [(m0, .inr (10, [.int th, .ref qu, .ref qs, .ref qc, .ref qp, .int 0, .int (-1), .int 0, .null])), (qs, .inr (1, [.int 0, .ref es, .int 0]))] sz) := by
  refine Met.ofW (cc := cX8_isDusty) (maxL := 2) (ret := (some .boolean)) (by decide +kernel) rfl ?_
  intro p e s m args below meth c s₁ B hml hv
  obtain ⟨rfl, hsz, hP, hK, hD0, hE, hX0⟩ := hv
  have hx := B.exec
  have hb := B.bytes
  have hr := B.returns
  have hts := z_E.ts (args := [.ref m0, .int a0].toArray) hE
  have hown : s.vm.findClass RX8 = some m.cls := findClass_of_methodNamed B.named
  have hlocks := B.notSynchronized
  subst hsz
  have hD := hD0.self (sz := s.heap.size)
  generalize hAe : va_A [(m0, .inr (10, [.int th, .ref qu, .ref qs, .ref qc, .ref qp, .int 0, .int (-1), .int 0, .null])), (qs, .inr (1, [.int 0, .ref es, .int 0]))] s.heap.size = A at hD hX0 ⊢
  have hX : z_X D A s s.heap := hX0
  have hA : ∀ q : Nat, s.heap.size ≤ q → A q := fun q h => by rw [← hAe]; exact Or.inr h
  have hS : va_S A s.heap s.heap [] := va_S.rf
  have hP : va_P D vwCl [(m0, .inr (10, [.int th, .ref qu, .ref qs, .ref qc, .ref qp, .int 0, .int (-1), .int 0, .null])), (qs, .inr (1, [.int 0, .ref es, .int 0]))] s.heap := hP
  have hl := lv_entry ([.ref m0, .int a0]) (n := 2) (Nat.le_of_ble_eq_true rfl)
  rw [lg_entry_eq]
  generalize (lg_sl ([.ref m0, .int a0]) ++ List.replicate (2 - (lg_sl ([.ref m0, .int a0])).length) Slot.unset).toArray = ls at hl ⊢
  have hl : lv_has ls 2 [(0, .ref m0), (1, .int a0)] := hl
  skip
  refine lv_aload_n hx hb dX8_isDusty_0 rfl (lv_at hl 0 rfl) ?_
  refine lv_iload_n hx hb dX8_isDusty_1 rfl (lv_at hl 1 rfl) ?_
  obtain ⟨hb_1, hc_1⟩ := z_call (wc := [(m0, .inr (10, [.int th, .ref qu, .ref qs, .ref qc, .ref qp, .int 0, .int (-1), .int 0, .null])), (qs, .inr (1, [.int 0, .ref es, .int 0]))]) (tc := []) ([.ref m0, .int a0]) hP hK hD hS hA hE hX [0, 1] rfl rfl [] rfl
  have hF_1 := va_free (wc := [(m0, .inr (10, [.int th, .ref qu, .ref qs, .ref qc, .ref qp, .int 0, .int (-1), .int 0, .null])), (qs, .inr (1, [.int 0, .ref es, .int 0]))]) hD hS hA [0, 1] rfl
  refine va_calli (va_runV (As := [.int a0]) (rest := []) ⟨hx, hb, hml, hown, hts⟩ (f_X8_noShop l D m0 qu qs qc qp th es a0 _ ) (z_cV 1 hE zw_1464 zw_1466 zw_74 zw_96 zw_1467 rfl rfl rfl (by decide +kernel) ⟨(Nat.le_of_ble_eq_true rfl), (Nat.le_of_ble_eq_true rfl)⟩) ⟨hb_1, va_recv hK hP (ci := 10) (q0 := 0) rfl rfl, hc_1⟩ rfl rfl hl.1 rfl (lv_room (Nat.le_of_ble_eq_true rfl)) dX8_isDusty_2 ⟨(Nat.le_of_ble_eq_true rfl), (Nat.le_of_ble_eq_true rfl)⟩) hS (fun q _ h => hF_1 q h) hF_1 (fun r_1 u_1 t_1 H1 locs ht_1 hvm_1 hw_1 hB_1 hz_1 hk_1 hS1 => ?_)
  obtain ⟨hP, hK, hD⟩ := z_back (wc := [(m0, .inr (10, [.int th, .ref qu, .ref qs, .ref qc, .ref qp, .int 0, .int (-1), .int 0, .null])), (qs, .inr (1, [.int 0, .ref es, .int 0]))]) (wr := []) (w1 := [(m0, .inr (10, [.int 1, .ref qu, .ref qs, .ref qc, .ref qp, .int 0, .int (-1), .int 0, .null])), (qs, .inr (1, [.int 0, .ref es, .int 0]))]) (tr := []) hP hK hD [0, 1] [] rfl rfl rfl (by decide) ht_1 hvm_1 hk_1 hF_1 [] rfl hB_1
  have hS := hS1
  have hP : va_P D vwCl [(m0, .inr (10, [.int 1, .ref qu, .ref qs, .ref qc, .ref qp, .int 0, .int (-1), .int 0, .null])), (qs, .inr (1, [.int 0, .ref es, .int 0]))] H1 := hP
  have hD : va_D A [(m0, .inr (10, [.int 1, .ref qu, .ref qs, .ref qc, .ref qp, .int 0, .int (-1), .int 0, .null])), (qs, .inr (1, [.int 0, .ref es, .int 0]))] := hD
  have hK : va_K D vwCl [] s := hK
  clear hS1
  obtain rfl : r_1 = 1 := hw_1
  refine lv_if_ne (tgt := 30) hx hb dX8_isDusty_5 (by decide) (fun c_2 => ?_) (fun c_2 => absurd c_2 (by decide))
  refine lv_iconst (v := 0) hx hb dX8_isDusty_30 (by decide) ?_
  exact W.zret (v := 0) hx hb hr (by first | rfl | decide) (fun t ht hW => ⟨⟨0, (), rfl, trivial, z_end hP hK hD [0, 1] rfl rfl [] rfl ht hW.alike⟩, hS.F ht⟩) hS.2.2 dX8_isDusty_31
theorem dX8_took_0 : decode cX8_took 0 = .ok (.aload_n 0, 1) := by decide +kernel
theorem dX8_took_1 : decode cX8_took 1 = .ok (.iload_n 1, 1) := by decide +kernel
theorem dX8_took_2 : decode cX8_took 2 = .ok (.invokevirtual 169, 3) := by decide +kernel
theorem dX8_took_5 : decode cX8_took 5 = .ok (.ifCond .eq 7, 3) := by decide +kernel
theorem dX8_took_8 : decode cX8_took 8 = .ok (.lconst 0, 1) := by decide +kernel
theorem dX8_took_9 : decode cX8_took 9 = .ok (.goto 17, 3) := by decide +kernel
theorem dX8_took_26 : decode cX8_took 26 = .ok (.lreturn, 1) := by decide +kernel
set_option maxHeartbeats 4000000 in
set_option maxRecDepth 100000 in
theorem f_X8_took (l : Launch) (D : va_G) (m0 : Nat) (qu : Nat) (qs : Nat) (qc : Nat) (qp : Nat) (th : Int32) (es : Nat) (a0 : Int32) (sz : Nat)  : Met l yX8_took [Cond.code yX8_took cX8_took 2 (some .long)] ({ frames := 6, cells := 0, slots := 0, locals := 200 }) (z_Pc D [.ref m0, .int a0] [(m0, .inr (10, [.int th, .ref qu, .ref qs, .ref qc, .ref qp, .int 0, .int (-1), .int 0, .null])), (qs, .inr (1, [.int 0, .ref es, .int 0]))] [] sz) (va_Ql (fun (r : Int64) (_ : Unit) => True) (fun _ t => z_W D [(m0, .inr (10, [.int 1, .ref qu, .ref qs, .ref qc, .ref qp, .int 0, .int (-1), .int 0, .null])), (qs, .inr (1, [.int 0, .ref es, .int 0]))] [] (va_A [(m0, .inr (10, [.int th, .ref qu, .ref qs, .ref qc, .ref qp, .int 0, .int (-1), .int 0, .null])), (qs, .inr (1, [.int 0, .ref es, .int 0]))] sz) t) (va_A [(m0, .inr (10, [.int th, .ref qu, .ref qs, .ref qc, .ref qp, .int 0, .int (-1), .int 0, .null])), (qs, .inr (1, [.int 0, .ref es, .int 0]))] sz)) 0 0 (va_A [(m0, .inr (10, [.int th, .ref qu, .ref qs, .ref qc, .ref qp, .int 0, .int (-1), .int 0, .null])), (qs, .inr (1, [.int 0, .ref es, .int 0]))] sz) := by
  refine Met.ofW (cc := cX8_took) (maxL := 2) (ret := (some .long)) (by decide +kernel) rfl ?_
  intro p e s m args below meth c s₁ B hml hv
  obtain ⟨rfl, hsz, hP, hK, hD0, hE, hX0⟩ := hv
  have hx := B.exec
  have hb := B.bytes
  have hr := B.returns
  have hts := z_E.ts (args := [.ref m0, .int a0].toArray) hE
  have hown : s.vm.findClass RX8 = some m.cls := findClass_of_methodNamed B.named
  have hlocks := B.notSynchronized
  subst hsz
  have hD := hD0.self (sz := s.heap.size)
  generalize hAe : va_A [(m0, .inr (10, [.int th, .ref qu, .ref qs, .ref qc, .ref qp, .int 0, .int (-1), .int 0, .null])), (qs, .inr (1, [.int 0, .ref es, .int 0]))] s.heap.size = A at hD hX0 ⊢
  have hX : z_X D A s s.heap := hX0
  have hA : ∀ q : Nat, s.heap.size ≤ q → A q := fun q h => by rw [← hAe]; exact Or.inr h
  have hS : va_S A s.heap s.heap [] := va_S.rf
  have hP : va_P D vwCl [(m0, .inr (10, [.int th, .ref qu, .ref qs, .ref qc, .ref qp, .int 0, .int (-1), .int 0, .null])), (qs, .inr (1, [.int 0, .ref es, .int 0]))] s.heap := hP
  have hl := lv_entry ([.ref m0, .int a0]) (n := 2) (Nat.le_of_ble_eq_true rfl)
  rw [lg_entry_eq]
  generalize (lg_sl ([.ref m0, .int a0]) ++ List.replicate (2 - (lg_sl ([.ref m0, .int a0])).length) Slot.unset).toArray = ls at hl ⊢
  have hl : lv_has ls 2 [(0, .ref m0), (1, .int a0)] := hl
  skip
  refine lv_aload_n hx hb dX8_took_0 rfl (lv_at hl 0 rfl) ?_
  refine lv_iload_n hx hb dX8_took_1 rfl (lv_at hl 1 rfl) ?_
  obtain ⟨hb_1, hc_1⟩ := z_call (wc := [(m0, .inr (10, [.int th, .ref qu, .ref qs, .ref qc, .ref qp, .int 0, .int (-1), .int 0, .null])), (qs, .inr (1, [.int 0, .ref es, .int 0]))]) (tc := []) ([.ref m0, .int a0]) hP hK hD hS hA hE hX [0, 1] rfl rfl [] rfl
  have hF_1 := va_free (wc := [(m0, .inr (10, [.int th, .ref qu, .ref qs, .ref qc, .ref qp, .int 0, .int (-1), .int 0, .null])), (qs, .inr (1, [.int 0, .ref es, .int 0]))]) hD hS hA [0, 1] rfl
  refine va_calli (va_runV (As := [.int a0]) (rest := []) ⟨hx, hb, hml, hown, hts⟩ (f_X8_noShop l D m0 qu qs qc qp th es a0 _ ) (z_cV 1 hE zw_1464 zw_1466 zw_74 zw_96 zw_1467 rfl rfl rfl (by decide +kernel) ⟨(Nat.le_of_ble_eq_true rfl), (Nat.le_of_ble_eq_true rfl)⟩) ⟨hb_1, va_recv hK hP (ci := 10) (q0 := 0) rfl rfl, hc_1⟩ rfl rfl hl.1 rfl (lv_room (Nat.le_of_ble_eq_true rfl)) dX8_took_2 ⟨(Nat.le_of_ble_eq_true rfl), (Nat.le_of_ble_eq_true rfl)⟩) hS (fun q _ h => hF_1 q h) hF_1 (fun r_1 u_1 t_1 H1 locs ht_1 hvm_1 hw_1 hB_1 hz_1 hk_1 hS1 => ?_)
  obtain ⟨hP, hK, hD⟩ := z_back (wc := [(m0, .inr (10, [.int th, .ref qu, .ref qs, .ref qc, .ref qp, .int 0, .int (-1), .int 0, .null])), (qs, .inr (1, [.int 0, .ref es, .int 0]))]) (wr := []) (w1 := [(m0, .inr (10, [.int 1, .ref qu, .ref qs, .ref qc, .ref qp, .int 0, .int (-1), .int 0, .null])), (qs, .inr (1, [.int 0, .ref es, .int 0]))]) (tr := []) hP hK hD [0, 1] [] rfl rfl rfl (by decide) ht_1 hvm_1 hk_1 hF_1 [] rfl hB_1
  have hS := hS1
  have hP : va_P D vwCl [(m0, .inr (10, [.int 1, .ref qu, .ref qs, .ref qc, .ref qp, .int 0, .int (-1), .int 0, .null])), (qs, .inr (1, [.int 0, .ref es, .int 0]))] H1 := hP
  have hD : va_D A [(m0, .inr (10, [.int 1, .ref qu, .ref qs, .ref qc, .ref qp, .int 0, .int (-1), .int 0, .null])), (qs, .inr (1, [.int 0, .ref es, .int 0]))] := hD
  have hK : va_K D vwCl [] s := hK
  clear hS1
  obtain rfl : r_1 = 1 := hw_1
  refine lv_if_eq (tgt := 12) hx hb dX8_took_5 (by decide) (fun c_2 => absurd c_2 (by decide)) (fun c_2 => ?_)
  refine lv_lconst (v := 0) hx hb dX8_took_8 (by decide) ?_
  refine lv_goto (tgt := 26) hx hb dX8_took_9 (by decide) ?_
  exact W.lret (v := 0) hx hb hr (fun t ht hW => ⟨⟨0, (), rfl, trivial, z_end hP hK hD [0, 1] rfl rfl [] rfl ht hW.alike⟩, hS.F ht⟩) hS.2.2 dX8_took_26
theorem dX8_lost_0 : decode cX8_lost 0 = .ok (.aload_n 0, 1) := by decide +kernel
theorem dX8_lost_1 : decode cX8_lost 1 = .ok (.iload_n 1, 1) := by decide +kernel
theorem dX8_lost_2 : decode cX8_lost 2 = .ok (.invokevirtual 169, 3) := by decide +kernel
theorem dX8_lost_5 : decode cX8_lost 5 = .ok (.ifCond .eq 5, 3) := by decide +kernel
theorem dX8_lost_8 : decode cX8_lost 8 = .ok (.lconst 0, 1) := by decide +kernel
theorem dX8_lost_9 : decode cX8_lost 9 = .ok (.lreturn, 1) := by decide +kernel
set_option maxHeartbeats 4000000 in
set_option maxRecDepth 100000 in
theorem f_X8_lost (l : Launch) (D : va_G) (m0 : Nat) (qu : Nat) (qs : Nat) (qc : Nat) (qp : Nat) (th : Int32) (es : Nat) (a0 : Int32) (a1 : Int32) (sz : Nat)  : Met l yX8_lost [Cond.code yX8_lost cX8_lost 3 (some .long)] ({ frames := 6, cells := 0, slots := 0, locals := 200 }) (z_Pc D [.ref m0, .int a0, .int a1] [(m0, .inr (10, [.int th, .ref qu, .ref qs, .ref qc, .ref qp, .int 0, .int (-1), .int 0, .null])), (qs, .inr (1, [.int 0, .ref es, .int 0]))] [] sz) (va_Ql (fun (r : Int64) (_ : Unit) => True) (fun _ t => z_W D [(m0, .inr (10, [.int 1, .ref qu, .ref qs, .ref qc, .ref qp, .int 0, .int (-1), .int 0, .null])), (qs, .inr (1, [.int 0, .ref es, .int 0]))] [] (va_A [(m0, .inr (10, [.int th, .ref qu, .ref qs, .ref qc, .ref qp, .int 0, .int (-1), .int 0, .null])), (qs, .inr (1, [.int 0, .ref es, .int 0]))] sz) t) (va_A [(m0, .inr (10, [.int th, .ref qu, .ref qs, .ref qc, .ref qp, .int 0, .int (-1), .int 0, .null])), (qs, .inr (1, [.int 0, .ref es, .int 0]))] sz)) 0 0 (va_A [(m0, .inr (10, [.int th, .ref qu, .ref qs, .ref qc, .ref qp, .int 0, .int (-1), .int 0, .null])), (qs, .inr (1, [.int 0, .ref es, .int 0]))] sz) := by
  refine Met.ofW (cc := cX8_lost) (maxL := 3) (ret := (some .long)) (by decide +kernel) rfl ?_
  intro p e s m args below meth c s₁ B hml hv
  obtain ⟨rfl, hsz, hP, hK, hD0, hE, hX0⟩ := hv
  have hx := B.exec
  have hb := B.bytes
  have hr := B.returns
  have hts := z_E.ts (args := [.ref m0, .int a0, .int a1].toArray) hE
  have hown : s.vm.findClass RX8 = some m.cls := findClass_of_methodNamed B.named
  have hlocks := B.notSynchronized
  subst hsz
  have hD := hD0.self (sz := s.heap.size)
  generalize hAe : va_A [(m0, .inr (10, [.int th, .ref qu, .ref qs, .ref qc, .ref qp, .int 0, .int (-1), .int 0, .null])), (qs, .inr (1, [.int 0, .ref es, .int 0]))] s.heap.size = A at hD hX0 ⊢
  have hX : z_X D A s s.heap := hX0
  have hA : ∀ q : Nat, s.heap.size ≤ q → A q := fun q h => by rw [← hAe]; exact Or.inr h
  have hS : va_S A s.heap s.heap [] := va_S.rf
  have hP : va_P D vwCl [(m0, .inr (10, [.int th, .ref qu, .ref qs, .ref qc, .ref qp, .int 0, .int (-1), .int 0, .null])), (qs, .inr (1, [.int 0, .ref es, .int 0]))] s.heap := hP
  have hl := lv_entry ([.ref m0, .int a0, .int a1]) (n := 3) (Nat.le_of_ble_eq_true rfl)
  rw [lg_entry_eq]
  generalize (lg_sl ([.ref m0, .int a0, .int a1]) ++ List.replicate (3 - (lg_sl ([.ref m0, .int a0, .int a1])).length) Slot.unset).toArray = ls at hl ⊢
  have hl : lv_has ls 3 [(0, .ref m0), (1, .int a0), (2, .int a1)] := hl
  skip
  refine lv_aload_n hx hb dX8_lost_0 rfl (lv_at hl 0 rfl) ?_
  refine lv_iload_n hx hb dX8_lost_1 rfl (lv_at hl 1 rfl) ?_
  obtain ⟨hb_1, hc_1⟩ := z_call (wc := [(m0, .inr (10, [.int th, .ref qu, .ref qs, .ref qc, .ref qp, .int 0, .int (-1), .int 0, .null])), (qs, .inr (1, [.int 0, .ref es, .int 0]))]) (tc := []) ([.ref m0, .int a0]) hP hK hD hS hA hE hX [0, 1] rfl rfl [] rfl
  have hF_1 := va_free (wc := [(m0, .inr (10, [.int th, .ref qu, .ref qs, .ref qc, .ref qp, .int 0, .int (-1), .int 0, .null])), (qs, .inr (1, [.int 0, .ref es, .int 0]))]) hD hS hA [0, 1] rfl
  refine va_calli (va_runV (As := [.int a0]) (rest := []) ⟨hx, hb, hml, hown, hts⟩ (f_X8_noShop l D m0 qu qs qc qp th es a0 _ ) (z_cV 1 hE zw_1464 zw_1466 zw_74 zw_96 zw_1467 rfl rfl rfl (by decide +kernel) ⟨(Nat.le_of_ble_eq_true rfl), (Nat.le_of_ble_eq_true rfl)⟩) ⟨hb_1, va_recv hK hP (ci := 10) (q0 := 0) rfl rfl, hc_1⟩ rfl rfl hl.1 rfl (lv_room (Nat.le_of_ble_eq_true rfl)) dX8_lost_2 ⟨(Nat.le_of_ble_eq_true rfl), (Nat.le_of_ble_eq_true rfl)⟩) hS (fun q _ h => hF_1 q h) hF_1 (fun r_1 u_1 t_1 H1 locs ht_1 hvm_1 hw_1 hB_1 hz_1 hk_1 hS1 => ?_)
  obtain ⟨hP, hK, hD⟩ := z_back (wc := [(m0, .inr (10, [.int th, .ref qu, .ref qs, .ref qc, .ref qp, .int 0, .int (-1), .int 0, .null])), (qs, .inr (1, [.int 0, .ref es, .int 0]))]) (wr := []) (w1 := [(m0, .inr (10, [.int 1, .ref qu, .ref qs, .ref qc, .ref qp, .int 0, .int (-1), .int 0, .null])), (qs, .inr (1, [.int 0, .ref es, .int 0]))]) (tr := []) hP hK hD [0, 1] [] rfl rfl rfl (by decide) ht_1 hvm_1 hk_1 hF_1 [] rfl hB_1
  have hS := hS1
  have hP : va_P D vwCl [(m0, .inr (10, [.int 1, .ref qu, .ref qs, .ref qc, .ref qp, .int 0, .int (-1), .int 0, .null])), (qs, .inr (1, [.int 0, .ref es, .int 0]))] H1 := hP
  have hD : va_D A [(m0, .inr (10, [.int 1, .ref qu, .ref qs, .ref qc, .ref qp, .int 0, .int (-1), .int 0, .null])), (qs, .inr (1, [.int 0, .ref es, .int 0]))] := hD
  have hK : va_K D vwCl [] s := hK
  clear hS1
  obtain rfl : r_1 = 1 := hw_1
  refine lv_if_eq (tgt := 10) hx hb dX8_lost_5 (by decide) (fun c_2 => absurd c_2 (by decide)) (fun c_2 => ?_)
  refine lv_lconst (v := 0) hx hb dX8_lost_8 (by decide) ?_
  exact W.lret (v := 0) hx hb hr (fun t ht hW => ⟨⟨0, (), rfl, trivial, z_end hP hK hD [0, 1] rfl rfl [] rfl ht hW.alike⟩, hS.F ht⟩) hS.2.2 dX8_lost_9
theorem dX8_rent_0 : decode cX8_rent 0 = .ok (.aload_n 0, 1) := by decide +kernel
theorem dX8_rent_1 : decode cX8_rent 1 = .ok (.iload_n 1, 1) := by decide +kernel
theorem dX8_rent_2 : decode cX8_rent 2 = .ok (.invokevirtual 169, 3) := by decide +kernel
theorem dX8_rent_5 : decode cX8_rent 5 = .ok (.ifCond .eq 7, 3) := by decide +kernel
theorem dX8_rent_8 : decode cX8_rent 8 = .ok (.lconst 0, 1) := by decide +kernel
theorem dX8_rent_9 : decode cX8_rent 9 = .ok (.goto 21, 3) := by decide +kernel
theorem dX8_rent_30 : decode cX8_rent 30 = .ok (.lreturn, 1) := by decide +kernel
set_option maxHeartbeats 4000000 in
set_option maxRecDepth 100000 in
theorem f_X8_rent (l : Launch) (D : va_G) (m0 : Nat) (qu : Nat) (qs : Nat) (qc : Nat) (qp : Nat) (th : Int32) (es : Nat) (a0 : Int32) (sz : Nat)  : Met l yX8_rent [Cond.code yX8_rent cX8_rent 2 (some .long)] ({ frames := 6, cells := 0, slots := 0, locals := 200 }) (z_Pc D [.ref m0, .int a0] [(m0, .inr (10, [.int th, .ref qu, .ref qs, .ref qc, .ref qp, .int 0, .int (-1), .int 0, .null])), (qs, .inr (1, [.int 0, .ref es, .int 0]))] [] sz) (va_Ql (fun (r : Int64) (_ : Unit) => True) (fun _ t => z_W D [(m0, .inr (10, [.int 1, .ref qu, .ref qs, .ref qc, .ref qp, .int 0, .int (-1), .int 0, .null])), (qs, .inr (1, [.int 0, .ref es, .int 0]))] [] (va_A [(m0, .inr (10, [.int th, .ref qu, .ref qs, .ref qc, .ref qp, .int 0, .int (-1), .int 0, .null])), (qs, .inr (1, [.int 0, .ref es, .int 0]))] sz) t) (va_A [(m0, .inr (10, [.int th, .ref qu, .ref qs, .ref qc, .ref qp, .int 0, .int (-1), .int 0, .null])), (qs, .inr (1, [.int 0, .ref es, .int 0]))] sz)) 0 0 (va_A [(m0, .inr (10, [.int th, .ref qu, .ref qs, .ref qc, .ref qp, .int 0, .int (-1), .int 0, .null])), (qs, .inr (1, [.int 0, .ref es, .int 0]))] sz) := by
  refine Met.ofW (cc := cX8_rent) (maxL := 2) (ret := (some .long)) (by decide +kernel) rfl ?_
  intro p e s m args below meth c s₁ B hml hv
  obtain ⟨rfl, hsz, hP, hK, hD0, hE, hX0⟩ := hv
  have hx := B.exec
  have hb := B.bytes
  have hr := B.returns
  have hts := z_E.ts (args := [.ref m0, .int a0].toArray) hE
  have hown : s.vm.findClass RX8 = some m.cls := findClass_of_methodNamed B.named
  have hlocks := B.notSynchronized
  subst hsz
  have hD := hD0.self (sz := s.heap.size)
  generalize hAe : va_A [(m0, .inr (10, [.int th, .ref qu, .ref qs, .ref qc, .ref qp, .int 0, .int (-1), .int 0, .null])), (qs, .inr (1, [.int 0, .ref es, .int 0]))] s.heap.size = A at hD hX0 ⊢
  have hX : z_X D A s s.heap := hX0
  have hA : ∀ q : Nat, s.heap.size ≤ q → A q := fun q h => by rw [← hAe]; exact Or.inr h
  have hS : va_S A s.heap s.heap [] := va_S.rf
  have hP : va_P D vwCl [(m0, .inr (10, [.int th, .ref qu, .ref qs, .ref qc, .ref qp, .int 0, .int (-1), .int 0, .null])), (qs, .inr (1, [.int 0, .ref es, .int 0]))] s.heap := hP
  have hl := lv_entry ([.ref m0, .int a0]) (n := 2) (Nat.le_of_ble_eq_true rfl)
  rw [lg_entry_eq]
  generalize (lg_sl ([.ref m0, .int a0]) ++ List.replicate (2 - (lg_sl ([.ref m0, .int a0])).length) Slot.unset).toArray = ls at hl ⊢
  have hl : lv_has ls 2 [(0, .ref m0), (1, .int a0)] := hl
  skip
  refine lv_aload_n hx hb dX8_rent_0 rfl (lv_at hl 0 rfl) ?_
  refine lv_iload_n hx hb dX8_rent_1 rfl (lv_at hl 1 rfl) ?_
  obtain ⟨hb_1, hc_1⟩ := z_call (wc := [(m0, .inr (10, [.int th, .ref qu, .ref qs, .ref qc, .ref qp, .int 0, .int (-1), .int 0, .null])), (qs, .inr (1, [.int 0, .ref es, .int 0]))]) (tc := []) ([.ref m0, .int a0]) hP hK hD hS hA hE hX [0, 1] rfl rfl [] rfl
  have hF_1 := va_free (wc := [(m0, .inr (10, [.int th, .ref qu, .ref qs, .ref qc, .ref qp, .int 0, .int (-1), .int 0, .null])), (qs, .inr (1, [.int 0, .ref es, .int 0]))]) hD hS hA [0, 1] rfl
  refine va_calli (va_runV (As := [.int a0]) (rest := []) ⟨hx, hb, hml, hown, hts⟩ (f_X8_noShop l D m0 qu qs qc qp th es a0 _ ) (z_cV 1 hE zw_1464 zw_1466 zw_74 zw_96 zw_1467 rfl rfl rfl (by decide +kernel) ⟨(Nat.le_of_ble_eq_true rfl), (Nat.le_of_ble_eq_true rfl)⟩) ⟨hb_1, va_recv hK hP (ci := 10) (q0 := 0) rfl rfl, hc_1⟩ rfl rfl hl.1 rfl (lv_room (Nat.le_of_ble_eq_true rfl)) dX8_rent_2 ⟨(Nat.le_of_ble_eq_true rfl), (Nat.le_of_ble_eq_true rfl)⟩) hS (fun q _ h => hF_1 q h) hF_1 (fun r_1 u_1 t_1 H1 locs ht_1 hvm_1 hw_1 hB_1 hz_1 hk_1 hS1 => ?_)
  obtain ⟨hP, hK, hD⟩ := z_back (wc := [(m0, .inr (10, [.int th, .ref qu, .ref qs, .ref qc, .ref qp, .int 0, .int (-1), .int 0, .null])), (qs, .inr (1, [.int 0, .ref es, .int 0]))]) (wr := []) (w1 := [(m0, .inr (10, [.int 1, .ref qu, .ref qs, .ref qc, .ref qp, .int 0, .int (-1), .int 0, .null])), (qs, .inr (1, [.int 0, .ref es, .int 0]))]) (tr := []) hP hK hD [0, 1] [] rfl rfl rfl (by decide) ht_1 hvm_1 hk_1 hF_1 [] rfl hB_1
  have hS := hS1
  have hP : va_P D vwCl [(m0, .inr (10, [.int 1, .ref qu, .ref qs, .ref qc, .ref qp, .int 0, .int (-1), .int 0, .null])), (qs, .inr (1, [.int 0, .ref es, .int 0]))] H1 := hP
  have hD : va_D A [(m0, .inr (10, [.int 1, .ref qu, .ref qs, .ref qc, .ref qp, .int 0, .int (-1), .int 0, .null])), (qs, .inr (1, [.int 0, .ref es, .int 0]))] := hD
  have hK : va_K D vwCl [] s := hK
  clear hS1
  obtain rfl : r_1 = 1 := hw_1
  refine lv_if_eq (tgt := 12) hx hb dX8_rent_5 (by decide) (fun c_2 => absurd c_2 (by decide)) (fun c_2 => ?_)
  refine lv_lconst (v := 0) hx hb dX8_rent_8 (by decide) ?_
  refine lv_goto (tgt := 30) hx hb dX8_rent_9 (by decide) ?_
  exact W.lret (v := 0) hx hb hr (fun t ht hW => ⟨⟨0, (), rfl, trivial, z_end hP hK hD [0, 1] rfl rfl [] rfl ht hW.alike⟩, hS.F ht⟩) hS.2.2 dX8_rent_30
theorem dX8_send_0 : decode cX8_send 0 = .ok (.aload_n 0, 1) := by decide +kernel
theorem dX8_send_1 : decode cX8_send 1 = .ok (.iload_n 1, 1) := by decide +kernel
theorem dX8_send_2 : decode cX8_send 2 = .ok (.i2l, 1) := by decide +kernel
theorem dX8_send_3 : decode cX8_send 3 = .ok (.lconst 0, 1) := by decide +kernel
theorem dX8_send_4 : decode cX8_send 4 = .ok (.aload_n 0, 1) := by decide +kernel
theorem dX8_send_5 : decode cX8_send 5 = .ok (.getfield 19, 3) := by decide +kernel
theorem zw_1083 : Cond.fieldLink RX8 19 "TwofrontArcadeModel" "crews" "Ljava/util/ArrayList;" ∈ z_Ts := z_m 1083 (by decide +kernel) (by decide +kernel)
theorem dX8_send_8 : decode cX8_send 8 = .ok (.invokevirtual 33, 3) := by decide +kernel
theorem dX8_send_11 : decode cX8_send 11 = .ok (.iconst 1, 1) := by decide +kernel
theorem dX8_send_12 : decode cX8_send 12 = .ok (.isub, 1) := by decide +kernel
theorem dX8_send_13 : decode cX8_send 13 = .ok (.i2l, 1) := by decide +kernel
theorem dX8_send_14 : decode cX8_send 14 = .ok (.invokestatic 37, 3) := by decide +kernel
theorem dX8_send_17 : decode cX8_send 17 = .ok (.ifCond .eq 16, 3) := by decide +kernel
theorem dX8_send_33 : decode cX8_send 33 = .ok (.iconst 1, 1) := by decide +kernel
theorem dX8_send_34 : decode cX8_send 34 = .ok (.goto 4, 3) := by decide +kernel
theorem dX8_send_38 : decode cX8_send 38 = .ok (.putfield 30, 3) := by decide +kernel
theorem dX8_send_41 : decode cX8_send 41 = .ok (.aload_n 0, 1) := by decide +kernel
theorem dX8_send_42 : decode cX8_send 42 = .ok (.getfield 30, 3) := by decide +kernel
theorem dX8_send_45 : decode cX8_send 45 = .ok (.ifCond .le 5, 3) := by decide +kernel
theorem dX8_send_48 : decode cX8_send 48 = .ok (.iconst 0, 1) := by decide +kernel
theorem dX8_send_49 : decode cX8_send 49 = .ok (.ireturn, 1) := by decide +kernel
set_option maxHeartbeats 4000000 in
set_option maxRecDepth 100000 in
theorem f_X8_send (l : Launch) (D : va_G) (m0 : Nat) (qu : Nat) (qs : Nat) (qc : Nat) (qp : Nat) (th : Int32) (ec : Nat) (a0 : Int32) (a1 : Int32) (sz : Nat)  : Met l yX8_send [Cond.code yX8_send cX8_send 4 (some .int)] ({ frames := 6, cells := 0, slots := 0, locals := 200 }) (z_Pc D [.ref m0, .int a0, .int a1] [(m0, .inr (10, [.int th, .ref qu, .ref qs, .ref qc, .ref qp, .int 0, .int (-1), .int 0, .null])), (qc, .inr (1, [.int 0, .ref ec, .int 0]))] [] sz) (va_Qi (fun (r : Int32) (_ : Unit) => True) (fun _ t => z_W D [(m0, .inr (10, [.int 1, .ref qu, .ref qs, .ref qc, .ref qp, .int 0, .int (-1), .int 0, .null])), (qc, .inr (1, [.int 0, .ref ec, .int 0]))] [] (va_A [(m0, .inr (10, [.int th, .ref qu, .ref qs, .ref qc, .ref qp, .int 0, .int (-1), .int 0, .null])), (qc, .inr (1, [.int 0, .ref ec, .int 0]))] sz) t) (va_A [(m0, .inr (10, [.int th, .ref qu, .ref qs, .ref qc, .ref qp, .int 0, .int (-1), .int 0, .null])), (qc, .inr (1, [.int 0, .ref ec, .int 0]))] sz)) 0 0 (va_A [(m0, .inr (10, [.int th, .ref qu, .ref qs, .ref qc, .ref qp, .int 0, .int (-1), .int 0, .null])), (qc, .inr (1, [.int 0, .ref ec, .int 0]))] sz) := by
  refine Met.ofW (cc := cX8_send) (maxL := 4) (ret := (some .int)) (by decide +kernel) rfl ?_
  intro p e s m args below meth c s₁ B hml hv
  obtain ⟨rfl, hsz, hP, hK, hD0, hE, hX0⟩ := hv
  have hx := B.exec
  have hb := B.bytes
  have hr := B.returns
  have hts := z_E.ts (args := [.ref m0, .int a0, .int a1].toArray) hE
  have hown : s.vm.findClass RX8 = some m.cls := findClass_of_methodNamed B.named
  have hlocks := B.notSynchronized
  subst hsz
  have hD := hD0.self (sz := s.heap.size)
  generalize hAe : va_A [(m0, .inr (10, [.int th, .ref qu, .ref qs, .ref qc, .ref qp, .int 0, .int (-1), .int 0, .null])), (qc, .inr (1, [.int 0, .ref ec, .int 0]))] s.heap.size = A at hD hX0 ⊢
  have hX : z_X D A s s.heap := hX0
  have hA : ∀ q : Nat, s.heap.size ≤ q → A q := fun q h => by rw [← hAe]; exact Or.inr h
  have hS : va_S A s.heap s.heap [] := va_S.rf
  have hP : va_P D vwCl [(m0, .inr (10, [.int th, .ref qu, .ref qs, .ref qc, .ref qp, .int 0, .int (-1), .int 0, .null])), (qc, .inr (1, [.int 0, .ref ec, .int 0]))] s.heap := hP
  have hl := lv_entry ([.ref m0, .int a0, .int a1]) (n := 4) (Nat.le_of_ble_eq_true rfl)
  rw [lg_entry_eq]
  generalize (lg_sl ([.ref m0, .int a0, .int a1]) ++ List.replicate (4 - (lg_sl ([.ref m0, .int a0, .int a1])).length) Slot.unset).toArray = ls at hl ⊢
  have hl : lv_has ls 4 [(0, .ref m0), (1, .int a0), (2, .int a1)] := hl
  skip
  refine lv_aload_n hx hb dX8_send_0 rfl (lv_at hl 0 rfl) ?_
  refine lv_iload_n hx hb dX8_send_1 rfl (lv_at hl 1 rfl) ?_
  refine lv_i2l hx hb dX8_send_2 rfl ?_
  refine lv_lconst (v := 0) hx hb dX8_send_3 (by decide) ?_
  refine lv_aload_n hx hb dX8_send_4 rfl (lv_at hl 0 rfl) ?_
  refine va_get (D := D) (ci := 10) (v := .ref qc) (C := RX8) (T := TX8) (N := 9) hx hb hts zin_X8 hown hK hP 0 rfl rfl 3 (by decide) (hts _ zw_1083) (fun _ h9 => h9) rfl dX8_send_5 ?_
  obtain ⟨hb_1, hc_1⟩ := z_call (wc := [(qc, .inr (1, [.int 0, .ref ec, .int 0]))]) (tc := []) ([.ref qc]) hP hK hD hS hA hE hX [1] rfl rfl [] rfl
  have hF_1 := va_free (wc := [(qc, .inr (1, [.int 0, .ref ec, .int 0]))]) hD hS hA [1] rfl
  refine va_calli (va_runV (As := []) (rest := [.long 0, .long (a0).toInt64, .ref m0]) ⟨hx, hb, hml, hown, hts⟩ (c_J_size l D qc 0 ec 0 _ ) (z_cV 0 hE zw_1125 zw_1126 zw_1127 zw_99 zw_1128 rfl rfl rfl (by decide +kernel) ⟨(Nat.le_of_ble_eq_true rfl), (Nat.le_of_ble_eq_true rfl)⟩) ⟨hb_1, va_recv hK hP (ci := 1) (q0 := 1) rfl rfl, hc_1⟩ rfl rfl hl.1 rfl (lv_room (Nat.le_of_ble_eq_true rfl)) dX8_send_8 ⟨(Nat.le_of_ble_eq_true rfl), (Nat.le_of_ble_eq_true rfl)⟩) hS (fun q _ h => hF_1 q h) hF_1 (fun r_1 u_1 t_1 H1 locs ht_1 hvm_1 hw_1 hB_1 hz_1 hk_1 hS1 => ?_)
  obtain ⟨hP, hK, hD⟩ := z_back (wc := [(qc, .inr (1, [.int 0, .ref ec, .int 0]))]) (wr := [(m0, .inr (10, [.int th, .ref qu, .ref qs, .ref qc, .ref qp, .int 0, .int (-1), .int 0, .null]))]) (w1 := [(qc, .inr (1, [.int 0, .ref ec, .int 0]))]) (tr := []) hP hK hD [1] [0] rfl rfl rfl (by decide) ht_1 hvm_1 hk_1 hF_1 [] rfl hB_1
  have hS := hS1
  have hP : va_P D vwCl [(m0, .inr (10, [.int th, .ref qu, .ref qs, .ref qc, .ref qp, .int 0, .int (-1), .int 0, .null])), (qc, .inr (1, [.int 0, .ref ec, .int 0]))] H1 := hP
  have hD : va_D A [(m0, .inr (10, [.int th, .ref qu, .ref qs, .ref qc, .ref qp, .int 0, .int (-1), .int 0, .null])), (qc, .inr (1, [.int 0, .ref ec, .int 0]))] := hD
  have hK : va_K D vwCl [] s := hK
  clear hS1
  obtain rfl : r_1 = 0 := hw_1
  refine lv_iconst (v := 1) hx hb dX8_send_11 (by decide) ?_
  refine lv_isub hx hb dX8_send_12 ?_
  refine lv_topi (fun x_2 ex_2 => ?_)
  obtain rfl : x_2 = (-1) := ex_2.trans (by first | rfl | decide | simp)
  refine lv_i2l (v := (-1)) hx hb dX8_send_13 (by decide) ?_
  obtain ⟨hb_3, hc_3⟩ := z_call (wc := []) (tc := []) ([.long (a0).toInt64, .long 0, .long (-1)]) hP hK hD hS hA hE hX [] rfl rfl [] rfl
  have hF_3 := va_free (wc := []) hD hS hA [] rfl
  refine va_calli (va_runS (As := [.long (a0).toInt64, .long 0, .long (-1)]) (rest := [.ref m0]) ⟨hx, hb, hml, hown, hts⟩ (c_X8_in l D ((a0).toInt64) 0 (-1) _ ) (⟨z_cB 3 hE zw_1118 zw_96 zw_1120 rfl rfl rfl (by decide +kernel) ⟨(Nat.le_of_ble_eq_true rfl), (Nat.le_of_ble_eq_true rfl)⟩, hE.ts _ zw_1119⟩) ⟨hb_3, hc_3⟩ rfl rfl hl.1 rfl (lv_room (Nat.le_of_ble_eq_true rfl)) dX8_send_14 ⟨(Nat.le_of_ble_eq_true rfl), (Nat.le_of_ble_eq_true rfl)⟩) hS (fun q _ h => hF_3 q h) hF_3 (fun r_3 u_3 t_3 H1 locs ht_3 hvm_3 hw_3 hB_3 hz_3 hk_3 hS1 => ?_)
  obtain ⟨hP, hK, hD⟩ := z_back (wc := []) (wr := [(m0, .inr (10, [.int th, .ref qu, .ref qs, .ref qc, .ref qp, .int 0, .int (-1), .int 0, .null])), (qc, .inr (1, [.int 0, .ref ec, .int 0]))]) (w1 := []) (tr := []) hP hK hD [] [0, 1] rfl rfl rfl (by decide) ht_3 hvm_3 hk_3 hF_3 [] rfl hB_3
  have hS := hS1
  have hP : va_P D vwCl [(m0, .inr (10, [.int th, .ref qu, .ref qs, .ref qc, .ref qp, .int 0, .int (-1), .int 0, .null])), (qc, .inr (1, [.int 0, .ref ec, .int 0]))] H1 := hP
  have hD : va_D A [(m0, .inr (10, [.int th, .ref qu, .ref qs, .ref qc, .ref qp, .int 0, .int (-1), .int 0, .null])), (qc, .inr (1, [.int 0, .ref ec, .int 0]))] := hD
  have hK : va_K D vwCl [] s := hK
  clear hS1
  obtain rfl : r_3 = 0 := z_in0 hw_3
  refine lv_if_eq (tgt := 33) hx hb dX8_send_17 (by decide) (fun c_4 => ?_) (fun c_4 => absurd (by decide) c_4)
  refine lv_iconst (v := 1) hx hb dX8_send_33 (by decide) ?_
  refine lv_goto (tgt := 38) hx hb dX8_send_34 (by decide) ?_
  refine va_put (D := D) (ci := 10) (v := .int 1) (ty := .int) (C := RX8) (T := TX8) (N := 9) hx hb hts zin_X8 tyX8 tyX8_ok nmX8 hown hK hP hD hS 0 rfl rfl 0 (by decide) (hts _ zw_1080) (fun _ h9 => h9) rfl (by decide +kernel) rfl rfl (Nat.le_of_ble_eq_true rfl) dX8_send_38 (fun H locs hP hD hS => ?_)
  have hP : va_P D vwCl [(m0, .inr (10, [.int 1, .ref qu, .ref qs, .ref qc, .ref qp, .int 0, .int (-1), .int 0, .null])), (qc, .inr (1, [.int 0, .ref ec, .int 0]))] H := hP
  have hD : va_D A [(m0, .inr (10, [.int 1, .ref qu, .ref qs, .ref qc, .ref qp, .int 0, .int (-1), .int 0, .null])), (qc, .inr (1, [.int 0, .ref ec, .int 0]))] := hD
  refine lv_aload_n hx hb dX8_send_41 rfl (lv_at hl 0 rfl) ?_
  refine va_get (D := D) (ci := 10) (v := .int 1) (C := RX8) (T := TX8) (N := 9) hx hb hts zin_X8 hown hK hP 0 rfl rfl 0 (by decide) (hts _ zw_1080) (fun _ h9 => h9) rfl dX8_send_42 ?_
  refine lv_if_le (tgt := 50) hx hb dX8_send_45 (by decide) (fun c_5 => absurd c_5 (by decide)) (fun c_5 => ?_)
  refine lv_iconst (v := 0) hx hb dX8_send_48 (by decide) ?_
  exact W.iret (v := 0) hx hb hr (fun t ht hW => ⟨⟨0, (), rfl, trivial, z_end hP hK hD [0, 1] rfl rfl [] rfl ht hW.alike⟩, hS.F ht⟩) hS.2.2 dX8_send_49
theorem dX8_canWork_0 : decode cX8_canWork 0 = .ok (.aload_n 0, 1) := by decide +kernel
theorem dX8_canWork_1 : decode cX8_canWork 1 = .ok (.iload_n 1, 1) := by decide +kernel
theorem dX8_canWork_2 : decode cX8_canWork 2 = .ok (.i2l, 1) := by decide +kernel
theorem dX8_canWork_3 : decode cX8_canWork 3 = .ok (.lconst 0, 1) := by decide +kernel
theorem dX8_canWork_4 : decode cX8_canWork 4 = .ok (.aload_n 0, 1) := by decide +kernel
theorem dX8_canWork_5 : decode cX8_canWork 5 = .ok (.getfield 19, 3) := by decide +kernel
theorem dX8_canWork_8 : decode cX8_canWork 8 = .ok (.invokevirtual 33, 3) := by decide +kernel
theorem dX8_canWork_11 : decode cX8_canWork 11 = .ok (.iconst 1, 1) := by decide +kernel
theorem dX8_canWork_12 : decode cX8_canWork 12 = .ok (.isub, 1) := by decide +kernel
theorem dX8_canWork_13 : decode cX8_canWork 13 = .ok (.i2l, 1) := by decide +kernel
theorem dX8_canWork_14 : decode cX8_canWork 14 = .ok (.invokestatic 37, 3) := by decide +kernel
theorem dX8_canWork_17 : decode cX8_canWork 17 = .ok (.ifCond .eq 7, 3) := by decide +kernel
theorem dX8_canWork_24 : decode cX8_canWork 24 = .ok (.iconst 1, 1) := by decide +kernel
theorem dX8_canWork_25 : decode cX8_canWork 25 = .ok (.putfield 30, 3) := by decide +kernel
theorem dX8_canWork_28 : decode cX8_canWork 28 = .ok (.aload_n 0, 1) := by decide +kernel
theorem dX8_canWork_29 : decode cX8_canWork 29 = .ok (.getfield 30, 3) := by decide +kernel
theorem dX8_canWork_32 : decode cX8_canWork 32 = .ok (.ifCond .ne 15, 3) := by decide +kernel
theorem dX8_canWork_47 : decode cX8_canWork 47 = .ok (.iconst 0, 1) := by decide +kernel
theorem dX8_canWork_48 : decode cX8_canWork 48 = .ok (.ireturn, 1) := by decide +kernel
set_option maxHeartbeats 4000000 in
set_option maxRecDepth 100000 in
theorem f_X8_canWork (l : Launch) (D : va_G) (m0 : Nat) (qu : Nat) (qs : Nat) (qc : Nat) (qp : Nat) (th : Int32) (ec : Nat) (a0 : Int32) (sz : Nat)  : Met l yX8_canWork [Cond.code yX8_canWork cX8_canWork 2 (some .boolean)] ({ frames := 6, cells := 0, slots := 0, locals := 200 }) (z_Pc D [.ref m0, .int a0] [(m0, .inr (10, [.int th, .ref qu, .ref qs, .ref qc, .ref qp, .int 0, .int (-1), .int 0, .null])), (qc, .inr (1, [.int 0, .ref ec, .int 0]))] [] sz) (va_Qi (fun (r : Int32) (_ : Unit) => True) (fun _ t => z_W D [(m0, .inr (10, [.int 1, .ref qu, .ref qs, .ref qc, .ref qp, .int 0, .int (-1), .int 0, .null])), (qc, .inr (1, [.int 0, .ref ec, .int 0]))] [] (va_A [(m0, .inr (10, [.int th, .ref qu, .ref qs, .ref qc, .ref qp, .int 0, .int (-1), .int 0, .null])), (qc, .inr (1, [.int 0, .ref ec, .int 0]))] sz) t) (va_A [(m0, .inr (10, [.int th, .ref qu, .ref qs, .ref qc, .ref qp, .int 0, .int (-1), .int 0, .null])), (qc, .inr (1, [.int 0, .ref ec, .int 0]))] sz)) 0 0 (va_A [(m0, .inr (10, [.int th, .ref qu, .ref qs, .ref qc, .ref qp, .int 0, .int (-1), .int 0, .null])), (qc, .inr (1, [.int 0, .ref ec, .int 0]))] sz) := by
  refine Met.ofW (cc := cX8_canWork) (maxL := 2) (ret := (some .boolean)) (by decide +kernel) rfl ?_
  intro p e s m args below meth c s₁ B hml hv
  obtain ⟨rfl, hsz, hP, hK, hD0, hE, hX0⟩ := hv
  have hx := B.exec
  have hb := B.bytes
  have hr := B.returns
  have hts := z_E.ts (args := [.ref m0, .int a0].toArray) hE
  have hown : s.vm.findClass RX8 = some m.cls := findClass_of_methodNamed B.named
  have hlocks := B.notSynchronized
  subst hsz
  have hD := hD0.self (sz := s.heap.size)
  generalize hAe : va_A [(m0, .inr (10, [.int th, .ref qu, .ref qs, .ref qc, .ref qp, .int 0, .int (-1), .int 0, .null])), (qc, .inr (1, [.int 0, .ref ec, .int 0]))] s.heap.size = A at hD hX0 ⊢
  have hX : z_X D A s s.heap := hX0
  have hA : ∀ q : Nat, s.heap.size ≤ q → A q := fun q h => by rw [← hAe]; exact Or.inr h
  have hS : va_S A s.heap s.heap [] := va_S.rf
  have hP : va_P D vwCl [(m0, .inr (10, [.int th, .ref qu, .ref qs, .ref qc, .ref qp, .int 0, .int (-1), .int 0, .null])), (qc, .inr (1, [.int 0, .ref ec, .int 0]))] s.heap := hP
  have hl := lv_entry ([.ref m0, .int a0]) (n := 2) (Nat.le_of_ble_eq_true rfl)
  rw [lg_entry_eq]
  generalize (lg_sl ([.ref m0, .int a0]) ++ List.replicate (2 - (lg_sl ([.ref m0, .int a0])).length) Slot.unset).toArray = ls at hl ⊢
  have hl : lv_has ls 2 [(0, .ref m0), (1, .int a0)] := hl
  skip
  refine lv_aload_n hx hb dX8_canWork_0 rfl (lv_at hl 0 rfl) ?_
  refine lv_iload_n hx hb dX8_canWork_1 rfl (lv_at hl 1 rfl) ?_
  refine lv_i2l hx hb dX8_canWork_2 rfl ?_
  refine lv_lconst (v := 0) hx hb dX8_canWork_3 (by decide) ?_
  refine lv_aload_n hx hb dX8_canWork_4 rfl (lv_at hl 0 rfl) ?_
  refine va_get (D := D) (ci := 10) (v := .ref qc) (C := RX8) (T := TX8) (N := 9) hx hb hts zin_X8 hown hK hP 0 rfl rfl 3 (by decide) (hts _ zw_1083) (fun _ h9 => h9) rfl dX8_canWork_5 ?_
  obtain ⟨hb_1, hc_1⟩ := z_call (wc := [(qc, .inr (1, [.int 0, .ref ec, .int 0]))]) (tc := []) ([.ref qc]) hP hK hD hS hA hE hX [1] rfl rfl [] rfl
  have hF_1 := va_free (wc := [(qc, .inr (1, [.int 0, .ref ec, .int 0]))]) hD hS hA [1] rfl
  refine va_calli (va_runV (As := []) (rest := [.long 0, .long (a0).toInt64, .ref m0]) ⟨hx, hb, hml, hown, hts⟩ (c_J_size l D qc 0 ec 0 _ ) (z_cV 0 hE zw_1125 zw_1126 zw_1127 zw_99 zw_1128 rfl rfl rfl (by decide +kernel) ⟨(Nat.le_of_ble_eq_true rfl), (Nat.le_of_ble_eq_true rfl)⟩) ⟨hb_1, va_recv hK hP (ci := 1) (q0 := 1) rfl rfl, hc_1⟩ rfl rfl hl.1 rfl (lv_room (Nat.le_of_ble_eq_true rfl)) dX8_canWork_8 ⟨(Nat.le_of_ble_eq_true rfl), (Nat.le_of_ble_eq_true rfl)⟩) hS (fun q _ h => hF_1 q h) hF_1 (fun r_1 u_1 t_1 H1 locs ht_1 hvm_1 hw_1 hB_1 hz_1 hk_1 hS1 => ?_)
  obtain ⟨hP, hK, hD⟩ := z_back (wc := [(qc, .inr (1, [.int 0, .ref ec, .int 0]))]) (wr := [(m0, .inr (10, [.int th, .ref qu, .ref qs, .ref qc, .ref qp, .int 0, .int (-1), .int 0, .null]))]) (w1 := [(qc, .inr (1, [.int 0, .ref ec, .int 0]))]) (tr := []) hP hK hD [1] [0] rfl rfl rfl (by decide) ht_1 hvm_1 hk_1 hF_1 [] rfl hB_1
  have hS := hS1
  have hP : va_P D vwCl [(m0, .inr (10, [.int th, .ref qu, .ref qs, .ref qc, .ref qp, .int 0, .int (-1), .int 0, .null])), (qc, .inr (1, [.int 0, .ref ec, .int 0]))] H1 := hP
  have hD : va_D A [(m0, .inr (10, [.int th, .ref qu, .ref qs, .ref qc, .ref qp, .int 0, .int (-1), .int 0, .null])), (qc, .inr (1, [.int 0, .ref ec, .int 0]))] := hD
  have hK : va_K D vwCl [] s := hK
  clear hS1
  obtain rfl : r_1 = 0 := hw_1
  refine lv_iconst (v := 1) hx hb dX8_canWork_11 (by decide) ?_
  refine lv_isub hx hb dX8_canWork_12 ?_
  refine lv_topi (fun x_2 ex_2 => ?_)
  obtain rfl : x_2 = (-1) := ex_2.trans (by first | rfl | decide | simp)
  refine lv_i2l (v := (-1)) hx hb dX8_canWork_13 (by decide) ?_
  obtain ⟨hb_3, hc_3⟩ := z_call (wc := []) (tc := []) ([.long (a0).toInt64, .long 0, .long (-1)]) hP hK hD hS hA hE hX [] rfl rfl [] rfl
  have hF_3 := va_free (wc := []) hD hS hA [] rfl
  refine va_calli (va_runS (As := [.long (a0).toInt64, .long 0, .long (-1)]) (rest := [.ref m0]) ⟨hx, hb, hml, hown, hts⟩ (c_X8_in l D ((a0).toInt64) 0 (-1) _ ) (⟨z_cB 3 hE zw_1118 zw_96 zw_1120 rfl rfl rfl (by decide +kernel) ⟨(Nat.le_of_ble_eq_true rfl), (Nat.le_of_ble_eq_true rfl)⟩, hE.ts _ zw_1119⟩) ⟨hb_3, hc_3⟩ rfl rfl hl.1 rfl (lv_room (Nat.le_of_ble_eq_true rfl)) dX8_canWork_14 ⟨(Nat.le_of_ble_eq_true rfl), (Nat.le_of_ble_eq_true rfl)⟩) hS (fun q _ h => hF_3 q h) hF_3 (fun r_3 u_3 t_3 H1 locs ht_3 hvm_3 hw_3 hB_3 hz_3 hk_3 hS1 => ?_)
  obtain ⟨hP, hK, hD⟩ := z_back (wc := []) (wr := [(m0, .inr (10, [.int th, .ref qu, .ref qs, .ref qc, .ref qp, .int 0, .int (-1), .int 0, .null])), (qc, .inr (1, [.int 0, .ref ec, .int 0]))]) (w1 := []) (tr := []) hP hK hD [] [0, 1] rfl rfl rfl (by decide) ht_3 hvm_3 hk_3 hF_3 [] rfl hB_3
  have hS := hS1
  have hP : va_P D vwCl [(m0, .inr (10, [.int th, .ref qu, .ref qs, .ref qc, .ref qp, .int 0, .int (-1), .int 0, .null])), (qc, .inr (1, [.int 0, .ref ec, .int 0]))] H1 := hP
  have hD : va_D A [(m0, .inr (10, [.int th, .ref qu, .ref qs, .ref qc, .ref qp, .int 0, .int (-1), .int 0, .null])), (qc, .inr (1, [.int 0, .ref ec, .int 0]))] := hD
  have hK : va_K D vwCl [] s := hK
  clear hS1
  obtain rfl : r_3 = 0 := z_in0 hw_3
  refine lv_if_eq (tgt := 24) hx hb dX8_canWork_17 (by decide) (fun c_4 => ?_) (fun c_4 => absurd (by decide) c_4)
  refine lv_iconst (v := 1) hx hb dX8_canWork_24 (by decide) ?_
  refine va_put (D := D) (ci := 10) (v := .int 1) (ty := .int) (C := RX8) (T := TX8) (N := 9) hx hb hts zin_X8 tyX8 tyX8_ok nmX8 hown hK hP hD hS 0 rfl rfl 0 (by decide) (hts _ zw_1080) (fun _ h9 => h9) rfl (by decide +kernel) rfl rfl (Nat.le_of_ble_eq_true rfl) dX8_canWork_25 (fun H locs hP hD hS => ?_)
  have hP : va_P D vwCl [(m0, .inr (10, [.int 1, .ref qu, .ref qs, .ref qc, .ref qp, .int 0, .int (-1), .int 0, .null])), (qc, .inr (1, [.int 0, .ref ec, .int 0]))] H := hP
  have hD : va_D A [(m0, .inr (10, [.int 1, .ref qu, .ref qs, .ref qc, .ref qp, .int 0, .int (-1), .int 0, .null])), (qc, .inr (1, [.int 0, .ref ec, .int 0]))] := hD
  refine lv_aload_n hx hb dX8_canWork_28 rfl (lv_at hl 0 rfl) ?_
  refine va_get (D := D) (ci := 10) (v := .int 1) (C := RX8) (T := TX8) (N := 9) hx hb hts zin_X8 hown hK hP 0 rfl rfl 0 (by decide) (hts _ zw_1080) (fun _ h9 => h9) rfl dX8_canWork_29 ?_
  refine lv_if_ne (tgt := 47) hx hb dX8_canWork_32 (by decide) (fun c_5 => ?_) (fun c_5 => absurd c_5 (by decide))
  refine lv_iconst (v := 0) hx hb dX8_canWork_47 (by decide) ?_
  exact W.zret (v := 0) hx hb hr (by first | rfl | decide) (fun t ht hW => ⟨⟨0, (), rfl, trivial, z_end hP hK hD [0, 1] rfl rfl [] rfl ht hW.alike⟩, hS.F ht⟩) hS.2.2 dX8_canWork_48
