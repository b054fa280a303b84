theorem dX8_init_0 : decode cX8_init 0 = .ok (.aload_n 0, 1) := by decide +kernel
theorem dX8_init_1 : decode cX8_init 1 = .ok (.invokespecial 1, 3) := by decide +kernel
theorem zw_1050 : Cond.methodLink RX8 1 ⟨"java/lang/Object", "<init>", "()V"⟩ ∈ z_Ts := z_m 1050 (by decide +kernel) (by decide +kernel)
theorem dX8_init_4 : decode cX8_init 4 = .ok (.aload_n 0, 1) := by decide +kernel
theorem dX8_init_5 : decode cX8_init 5 = .ok (.new 7, 3) := by decide +kernel
theorem zw_1051 : Cond.classLink RX8 7 RJx4a65c ∈ z_Ts := z_m 1051 (by decide +kernel) (by decide +kernel)
theorem zw_1052 : Cond.instantiable RJx4a65c 3 ∈ z_Ts := z_m 1052 (by decide +kernel) (by decide +kernel)
theorem dX8_init_8 : decode cX8_init 8 = .ok (.dup, 1) := by decide +kernel
theorem dX8_init_9 : decode cX8_init 9 = .ok (.invokespecial 9, 3) := by decide +kernel
theorem zw_1053 : Cond.methodLink RX8 9 yJx4a65c_init_da8c8 ∈ z_Ts := z_m 1053 (by decide +kernel) (by decide +kernel)
theorem zw_1055 : Cond.code yJx4a65c_init_da8c8 cJx4a65c_init_da8c8 1 none ∈ z_Ts := z_m 1055 (by decide +kernel) (by decide +kernel)
theorem zw_1054 : Cond.instanceMethod yJx4a65c_init_da8c8 ∈ z_Ts := z_m 1054 (by decide +kernel) (by decide +kernel)
theorem dX8_init_12 : decode cX8_init 12 = .ok (.putfield 10, 3) := by decide +kernel
theorem dX8_init_15 : decode cX8_init 15 = .ok (.aload_n 0, 1) := by decide +kernel
theorem dX8_init_16 : decode cX8_init 16 = .ok (.new 7, 3) := by decide +kernel
theorem dX8_init_19 : decode cX8_init 19 = .ok (.dup, 1) := by decide +kernel
theorem dX8_init_20 : decode cX8_init 20 = .ok (.invokespecial 9, 3) := by decide +kernel
theorem dX8_init_23 : decode cX8_init 23 = .ok (.putfield 16, 3) := by decide +kernel
theorem dX8_init_26 : decode cX8_init 26 = .ok (.aload_n 0, 1) := by decide +kernel
theorem dX8_init_27 : decode cX8_init 27 = .ok (.new 7, 3) := by decide +kernel
theorem dX8_init_30 : decode cX8_init 30 = .ok (.dup, 1) := by decide +kernel
theorem dX8_init_31 : decode cX8_init 31 = .ok (.invokespecial 9, 3) := by decide +kernel
theorem dX8_init_34 : decode cX8_init 34 = .ok (.putfield 19, 3) := by decide +kernel
theorem dX8_init_37 : decode cX8_init 37 = .ok (.aload_n 0, 1) := by decide +kernel
theorem dX8_init_38 : decode cX8_init 38 = .ok (.bipush 7, 2) := by decide +kernel
theorem dX8_init_40 : decode cX8_init 40 = .ok (.newarray .int, 2) := by decide +kernel
theorem dX8_init_42 : decode cX8_init 42 = .ok (.putfield 22, 3) := by decide +kernel
theorem zw_1084 : Cond.fieldLink RX8 22 "TwofrontArcadeModel" "people" "[I" ∈ z_Ts := z_m 1084 (by decide +kernel) (by decide +kernel)
theorem dX8_init_45 : decode cX8_init 45 = .ok (.aload_n 0, 1) := by decide +kernel
theorem dX8_init_46 : decode cX8_init 46 = .ok (.iconst (-1), 1) := by decide +kernel
theorem dX8_init_47 : decode cX8_init 47 = .ok (.putfield 26, 3) := by decide +kernel
theorem zw_1086 : Cond.fieldLink RX8 26 "TwofrontArcadeModel" "strikeTo" "I" ∈ z_Ts := z_m 1086 (by decide +kernel) (by decide +kernel)
theorem dX8_init_50 : decode cX8_init 50 = .ok (.iconst 0, 1) := by decide +kernel
theorem dX8_init_51 : decode cX8_init 51 = .ok (.istore_n 1, 1) := by decide +kernel
theorem dX8_init_52 : decode cX8_init 52 = .ok (.iload_n 1, 1) := by decide +kernel
theorem dX8_init_53 : decode cX8_init 53 = .ok (.bipush 7, 2) := by decide +kernel
theorem dX8_init_55 : decode cX8_init 55 = .ok (.if_icmp .ge 17, 3) := by decide +kernel
theorem dX8_init_58 : decode cX8_init 58 = .ok (.aload_n 0, 1) := by decide +kernel
theorem dX8_init_59 : decode cX8_init 59 = .ok (.getfield 22, 3) := by decide +kernel
theorem dX8_init_62 : decode cX8_init 62 = .ok (.iload_n 1, 1) := by decide +kernel
theorem dX8_init_63 : decode cX8_init 63 = .ok (.bipush 100, 2) := by decide +kernel
theorem dX8_init_65 : decode cX8_init 65 = .ok (.iastore, 1) := by decide +kernel
theorem dX8_init_66 : decode cX8_init 66 = .ok (.iinc 1 1, 3) := by decide +kernel
theorem dX8_init_69 : decode cX8_init 69 = .ok (.goto (-17), 3) := by decide +kernel
theorem dX8_init_72 : decode cX8_init 72 = .ok (.return_, 1) := by decide +kernel
set_option maxHeartbeats 4000000 in
set_option maxRecDepth 100000 in
theorem c_X8_init (l : Launch) (D : va_G) (m0 : Nat) (sz : Nat)  : Met l yX8_init [Cond.code yX8_init cX8_init 2 none] ({ frames := 4, cells := 4, slots := 16, locals := 140 }) (z_Pc D [.ref m0] [(m0, .inr (10, [.int 0, .null, .null, .null, .null, .int 0, .int 0, .int 0, .null]))] [] sz) (va_Qv (fun _ : Unit => True) (fun _ t => ∃ qu : Nat, ∃ qs : Nat, ∃ qc : Nat, ∃ qp : Nat, ∃ cP : ClassId, ∃ fp : Nat → Int32, (∀ j : Nat, j < 7 → fp j = 100) ∧ z_W D [(m0, .inr (10, [.int 0, .ref qu, .ref qs, .ref qc, .ref qp, .int 0, .int (-1), .int 0, .null])), (qu, .inr (1, [.int 0, .ref (D.2 50 0), .int 0])), (qs, .inr (1, [.int 0, .ref (D.2 50 0), .int 0])), (qc, .inr (1, [.int 0, .ref (D.2 50 0), .int 0])), (qp, .inl (cP, 7, .inl fp))] [(cP, .int)] (va_A [(m0, .inr (10, [.int 0, .null, .null, .null, .null, .int 0, .int 0, .int 0, .null]))] sz) t) (va_A [(m0, .inr (10, [.int 0, .null, .null, .null, .null, .int 0, .int 0, .int 0, .null]))] sz)) 4 16 (va_A [(m0, .inr (10, [.int 0, .null, .null, .null, .null, .int 0, .int 0, .int 0, .null]))] sz) := by
  refine Met.ofW (cc := cX8_init) (maxL := 2) (ret := none) (by decide +kernel) rfl ?_
  intro p e s m args below meth c s₁ B hml hv
  obtain ⟨rfl, hsz, hP, hK, hD0, hE, hX0⟩ := hv
  have hx := B.exec
  have hb := B.bytes
  have hr := B.returns
  have hts := z_E.ts (args := [.ref m0].toArray) hE
  have hown : s.vm.findClass RX8 = some m.cls := findClass_of_methodNamed B.named
  have hlocks := B.notSynchronized
  have hin : meth.name = "<init>" := (name_of_methodNamed B.named B.method).1
  subst hsz
  have hD := hD0.self (sz := s.heap.size)
  generalize hAe : va_A [(m0, .inr (10, [.int 0, .null, .null, .null, .null, .int 0, .int 0, .int 0, .null]))] s.heap.size = A at hD hX0 ⊢
  have hX : z_X D A s s.heap := hX0
  have hA : ∀ q : Nat, s.heap.size ≤ q → A q := fun q h => by rw [← hAe]; exact Or.inr h
  have hS : va_S A s.heap s.heap [] := va_S.rf
  have hP : va_P D vwCl [(m0, .inr (10, [.int 0, .null, .null, .null, .null, .int 0, .int 0, .int 0, .null]))] s.heap := hP
  have hl := lv_entry ([.ref m0]) (n := 2) (Nat.le_of_ble_eq_true rfl)
  rw [lg_entry_eq]
  generalize (lg_sl ([.ref m0]) ++ List.replicate (2 - (lg_sl ([.ref m0])).length) Slot.unset).toArray = ls at hl ⊢
  have hl : lv_has ls 2 [(0, .ref m0)] := hl
  skip
  refine lv_aload_n hx hb dX8_init_0 rfl (lv_at hl 0 rfl) ?_
  refine W.objInit hx hb hown (hts _ zw_1050) (hts _ zw_129) (hts _ zw_130) rfl (by rw [hml]; exact hl.1) rfl dX8_init_1 (Nat.le_of_ble_eq_true rfl) (Nat.le_of_ble_eq_true rfl) ?_
  refine W.eq (g2 := F0 m 4 ls []) rfl ?_
  refine lv_aload_n hx hb dX8_init_4 rfl (lv_at hl 0 rfl) ?_
  refine va_new (ci := 1) (fs := [.int 0, .null, .int 0]) (C := RJx4a65c) (T := TJx4a65c) (N := 3) hx hb hts zin_Jx4a65c tyJx4a65c tyJx4a65c_ok hown (hts _ zw_1051) (hts _ zw_1052) (hts _ zw_99) hK hP hD hS hA rfl (fun j hj => by rcases (show j = 0 ∨ j = 1 ∨ j = 2 by omega) with rfl | rfl | rfl <;> rfl) (Nat.le_of_ble_eq_true rfl) (Nat.le_of_ble_eq_true rfl) dX8_init_5 (fun q_1 H hP hD hS => ?_)
  have hP : va_P D vwCl [(m0, .inr (10, [.int 0, .null, .null, .null, .null, .int 0, .int 0, .int 0, .null])), (q_1, .inr (1, [.int 0, .null, .int 0]))] H := hP
  have hD : va_D A [(m0, .inr (10, [.int 0, .null, .null, .null, .null, .int 0, .int 0, .int 0, .null])), (q_1, .inr (1, [.int 0, .null, .int 0]))] := hD
  refine lv_dup hx hb dX8_init_8 rfl ?_
  obtain ⟨hb_2, hc_2⟩ := z_call (wc := [(q_1, .inr (1, [.int 0, .null, .int 0]))]) (tc := []) ([.ref q_1]) hP hK hD hS hA hE hX [1] rfl rfl [] rfl
  have hF_2 := va_free (wc := [(q_1, .inr (1, [.int 0, .null, .int 0]))]) hD hS hA [1] rfl
  refine va_callv (va_runI (As := []) (rest := [.ref q_1, .ref m0]) ⟨hx, hb, hml, hown, hts⟩ (c_al_init l D q_1 _ ) (⟨z_cB 0 hE zw_1053 zw_99 zw_1055 rfl rfl rfl (by decide +kernel) ⟨(Nat.le_of_ble_eq_true rfl), (Nat.le_of_ble_eq_true rfl)⟩, rfl, hE.ts _ zw_1054⟩) ⟨hb_2, hc_2⟩ rfl rfl hl.1 rfl (lv_room (Nat.le_of_ble_eq_true rfl)) dX8_init_9 ⟨(Nat.le_of_ble_eq_true rfl), (Nat.le_of_ble_eq_true rfl)⟩) hS (fun q _ h => hF_2 q h) hF_2 (fun u_2 t_2 H1 locs ht_2 hvm_2 hw_2 hB_2 hz_2 hk_2 hS1 => ?_)
  obtain ⟨hP, hK, hD⟩ := z_back (wc := [(q_1, .inr (1, [.int 0, .null, .int 0]))]) (wr := [(m0, .inr (10, [.int 0, .null, .null, .null, .null, .int 0, .int 0, .int 0, .null]))]) (w1 := [(q_1, .inr (1, [.int 0, .ref (D.2 50 0), .int 0]))]) (tr := []) hP hK hD [1] [0] rfl rfl rfl (by decide) ht_2 hvm_2 hk_2 hF_2 [] rfl hB_2
  have hS := hS1
  have hP : va_P D vwCl [(m0, .inr (10, [.int 0, .null, .null, .null, .null, .int 0, .int 0, .int 0, .null])), (q_1, .inr (1, [.int 0, .ref (D.2 50 0), .int 0]))] H1 := hP
  have hD : va_D A [(m0, .inr (10, [.int 0, .null, .null, .null, .null, .int 0, .int 0, .int 0, .null])), (q_1, .inr (1, [.int 0, .ref (D.2 50 0), .int 0]))] := hD
  have hK : va_K D vwCl [] s := hK
  clear hS1
  refine va_putF (D := D) (ci := 10) (v := .ref q_1) (ty := .object "java/util/ArrayList") (C := RX8) (T := TX8) (N := 9) hx hb hts zin_X8 tyX8 tyX8_ok nmX8 hown hK hP hD hS 0 rfl rfl 1 (by decide) (hts _ zw_1081) (fun _ h9 => h9) rfl hin rfl (by decide +kernel) rfl rfl (Nat.le_of_ble_eq_true rfl) dX8_init_12 (fun H locs hP hD hS => ?_)
  have hP : va_P D vwCl [(m0, .inr (10, [.int 0, .ref q_1, .null, .null, .null, .int 0, .int 0, .int 0, .null])), (q_1, .inr (1, [.int 0, .ref (D.2 50 0), .int 0]))] H := hP
  have hD : va_D A [(m0, .inr (10, [.int 0, .ref q_1, .null, .null, .null, .int 0, .int 0, .int 0, .null])), (q_1, .inr (1, [.int 0, .ref (D.2 50 0), .int 0]))] := hD
  refine lv_aload_n hx hb dX8_init_15 rfl (lv_at hl 0 rfl) ?_
  refine va_new (ci := 1) (fs := [.int 0, .null, .int 0]) (C := RJx4a65c) (T := TJx4a65c) (N := 3) hx hb hts zin_Jx4a65c tyJx4a65c tyJx4a65c_ok hown (hts _ zw_1051) (hts _ zw_1052) (hts _ zw_99) hK hP hD hS hA rfl (fun j hj => by rcases (show j = 0 ∨ j = 1 ∨ j = 2 by omega) with rfl | rfl | rfl <;> rfl) (Nat.le_of_ble_eq_true rfl) (Nat.le_of_ble_eq_true rfl) dX8_init_16 (fun q_3 H hP hD hS => ?_)
  have hP : va_P D vwCl [(m0, .inr (10, [.int 0, .ref q_1, .null, .null, .null, .int 0, .int 0, .int 0, .null])), (q_1, .inr (1, [.int 0, .ref (D.2 50 0), .int 0])), (q_3, .inr (1, [.int 0, .null, .int 0]))] H := hP
  have hD : va_D A [(m0, .inr (10, [.int 0, .ref q_1, .null, .null, .null, .int 0, .int 0, .int 0, .null])), (q_1, .inr (1, [.int 0, .ref (D.2 50 0), .int 0])), (q_3, .inr (1, [.int 0, .null, .int 0]))] := hD
  refine lv_dup hx hb dX8_init_19 rfl ?_
  obtain ⟨hb_4, hc_4⟩ := z_call (wc := [(q_3, .inr (1, [.int 0, .null, .int 0]))]) (tc := []) ([.ref q_3]) hP hK hD hS hA hE hX [2] rfl rfl [] rfl
  have hF_4 := va_free (wc := [(q_3, .inr (1, [.int 0, .null, .int 0]))]) hD hS hA [2] rfl
  refine va_callv (va_runI (As := []) (rest := [.ref q_3, .ref m0]) ⟨hx, hb, hml, hown, hts⟩ (c_al_init l D q_3 _ ) (⟨z_cB 0 hE zw_1053 zw_99 zw_1055 rfl rfl rfl (by decide +kernel) ⟨(Nat.le_of_ble_eq_true rfl), (Nat.le_of_ble_eq_true rfl)⟩, rfl, hE.ts _ zw_1054⟩) ⟨hb_4, hc_4⟩ rfl rfl hl.1 rfl (lv_room (Nat.le_of_ble_eq_true rfl)) dX8_init_20 ⟨(Nat.le_of_ble_eq_true rfl), (Nat.le_of_ble_eq_true rfl)⟩) hS (fun q _ h => hF_4 q h) hF_4 (fun u_4 t_4 H1 locs ht_4 hvm_4 hw_4 hB_4 hz_4 hk_4 hS1 => ?_)
  obtain ⟨hP, hK, hD⟩ := z_back (wc := [(q_3, .inr (1, [.int 0, .null, .int 0]))]) (wr := [(m0, .inr (10, [.int 0, .ref q_1, .null, .null, .null, .int 0, .int 0, .int 0, .null])), (q_1, .inr (1, [.int 0, .ref (D.2 50 0), .int 0]))]) (w1 := [(q_3, .inr (1, [.int 0, .ref (D.2 50 0), .int 0]))]) (tr := []) hP hK hD [2] [0, 1] rfl rfl rfl (by decide) ht_4 hvm_4 hk_4 hF_4 [] rfl hB_4
  have hS := hS1
  have hP : va_P D vwCl [(m0, .inr (10, [.int 0, .ref q_1, .null, .null, .null, .int 0, .int 0, .int 0, .null])), (q_1, .inr (1, [.int 0, .ref (D.2 50 0), .int 0])), (q_3, .inr (1, [.int 0, .ref (D.2 50 0), .int 0]))] H1 := hP
  have hD : va_D A [(m0, .inr (10, [.int 0, .ref q_1, .null, .null, .null, .int 0, .int 0, .int 0, .null])), (q_1, .inr (1, [.int 0, .ref (D.2 50 0), .int 0])), (q_3, .inr (1, [.int 0, .ref (D.2 50 0), .int 0]))] := hD
  have hK : va_K D vwCl [] s := hK
  clear hS1
  refine va_putF (D := D) (ci := 10) (v := .ref q_3) (ty := .object "java/util/ArrayList") (C := RX8) (T := TX8) (N := 9) hx hb hts zin_X8 tyX8 tyX8_ok nmX8 hown hK hP hD hS 0 rfl rfl 2 (by decide) (hts _ zw_1082) (fun _ h9 => h9) rfl hin rfl (by decide +kernel) rfl rfl (Nat.le_of_ble_eq_true rfl) dX8_init_23 (fun H locs hP hD hS => ?_)
  have hP : va_P D vwCl [(m0, .inr (10, [.int 0, .ref q_1, .ref q_3, .null, .null, .int 0, .int 0, .int 0, .null])), (q_1, .inr (1, [.int 0, .ref (D.2 50 0), .int 0])), (q_3, .inr (1, [.int 0, .ref (D.2 50 0), .int 0]))] H := hP
  have hD : va_D A [(m0, .inr (10, [.int 0, .ref q_1, .ref q_3, .null, .null, .int 0, .int 0, .int 0, .null])), (q_1, .inr (1, [.int 0, .ref (D.2 50 0), .int 0])), (q_3, .inr (1, [.int 0, .ref (D.2 50 0), .int 0]))] := hD
  refine lv_aload_n hx hb dX8_init_26 rfl (lv_at hl 0 rfl) ?_
  refine va_new (ci := 1) (fs := [.int 0, .null, .int 0]) (C := RJx4a65c) (T := TJx4a65c) (N := 3) hx hb hts zin_Jx4a65c tyJx4a65c tyJx4a65c_ok hown (hts _ zw_1051) (hts _ zw_1052) (hts _ zw_99) hK hP hD hS hA rfl (fun j hj => by rcases (show j = 0 ∨ j = 1 ∨ j = 2 by omega) with rfl | rfl | rfl <;> rfl) (Nat.le_of_ble_eq_true rfl) (Nat.le_of_ble_eq_true rfl) dX8_init_27 (fun q_5 H hP hD hS => ?_)
  have hP : va_P D vwCl [(m0, .inr (10, [.int 0, .ref q_1, .ref q_3, .null, .null, .int 0, .int 0, .int 0, .null])), (q_1, .inr (1, [.int 0, .ref (D.2 50 0), .int 0])), (q_3, .inr (1, [.int 0, .ref (D.2 50 0), .int 0])), (q_5, .inr (1, [.int 0, .null, .int 0]))] H := hP
  have hD : va_D A [(m0, .inr (10, [.int 0, .ref q_1, .ref q_3, .null, .null, .int 0, .int 0, .int 0, .null])), (q_1, .inr (1, [.int 0, .ref (D.2 50 0), .int 0])), (q_3, .inr (1, [.int 0, .ref (D.2 50 0), .int 0])), (q_5, .inr (1, [.int 0, .null, .int 0]))] := hD
  refine lv_dup hx hb dX8_init_30 rfl ?_
  obtain ⟨hb_6, hc_6⟩ := z_call (wc := [(q_5, .inr (1, [.int 0, .null, .int 0]))]) (tc := []) ([.ref q_5]) hP hK hD hS hA hE hX [3] rfl rfl [] rfl
  have hF_6 := va_free (wc := [(q_5, .inr (1, [.int 0, .null, .int 0]))]) hD hS hA [3] rfl
  refine va_callv (va_runI (As := []) (rest := [.ref q_5, .ref m0]) ⟨hx, hb, hml, hown, hts⟩ (c_al_init l D q_5 _ ) (⟨z_cB 0 hE zw_1053 zw_99 zw_1055 rfl rfl rfl (by decide +kernel) ⟨(Nat.le_of_ble_eq_true rfl), (Nat.le_of_ble_eq_true rfl)⟩, rfl, hE.ts _ zw_1054⟩) ⟨hb_6, hc_6⟩ rfl rfl hl.1 rfl (lv_room (Nat.le_of_ble_eq_true rfl)) dX8_init_31 ⟨(Nat.le_of_ble_eq_true rfl), (Nat.le_of_ble_eq_true rfl)⟩) hS (fun q _ h => hF_6 q h) hF_6 (fun u_6 t_6 H1 locs ht_6 hvm_6 hw_6 hB_6 hz_6 hk_6 hS1 => ?_)
  obtain ⟨hP, hK, hD⟩ := z_back (wc := [(q_5, .inr (1, [.int 0, .null, .int 0]))]) (wr := [(m0, .inr (10, [.int 0, .ref q_1, .ref q_3, .null, .null, .int 0, .int 0, .int 0, .null])), (q_1, .inr (1, [.int 0, .ref (D.2 50 0), .int 0])), (q_3, .inr (1, [.int 0, .ref (D.2 50 0), .int 0]))]) (w1 := [(q_5, .inr (1, [.int 0, .ref (D.2 50 0), .int 0]))]) (tr := []) hP hK hD [3] [0, 1, 2] rfl rfl rfl (by decide) ht_6 hvm_6 hk_6 hF_6 [] rfl hB_6
  have hS := hS1
  have hP : va_P D vwCl [(m0, .inr (10, [.int 0, .ref q_1, .ref q_3, .null, .null, .int 0, .int 0, .int 0, .null])), (q_1, .inr (1, [.int 0, .ref (D.2 50 0), .int 0])), (q_3, .inr (1, [.int 0, .ref (D.2 50 0), .int 0])), (q_5, .inr (1, [.int 0, .ref (D.2 50 0), .int 0]))] H1 := hP
  have hD : va_D A [(m0, .inr (10, [.int 0, .ref q_1, .ref q_3, .null, .null, .int 0, .int 0, .int 0, .null])), (q_1, .inr (1, [.int 0, .ref (D.2 50 0), .int 0])), (q_3, .inr (1, [.int 0, .ref (D.2 50 0), .int 0])), (q_5, .inr (1, [.int 0, .ref (D.2 50 0), .int 0]))] := hD
  have hK : va_K D vwCl [] s := hK
  clear hS1
  refine va_putF (D := D) (ci := 10) (v := .ref q_5) (ty := .object "java/util/ArrayList") (C := RX8) (T := TX8) (N := 9) hx hb hts zin_X8 tyX8 tyX8_ok nmX8 hown hK hP hD hS 0 rfl rfl 3 (by decide) (hts _ zw_1083) (fun _ h9 => h9) rfl hin rfl (by decide +kernel) rfl rfl (Nat.le_of_ble_eq_true rfl) dX8_init_34 (fun H locs hP hD hS => ?_)
  have hP : va_P D vwCl [(m0, .inr (10, [.int 0, .ref q_1, .ref q_3, .ref q_5, .null, .int 0, .int 0, .int 0, .null])), (q_1, .inr (1, [.int 0, .ref (D.2 50 0), .int 0])), (q_3, .inr (1, [.int 0, .ref (D.2 50 0), .int 0])), (q_5, .inr (1, [.int 0, .ref (D.2 50 0), .int 0]))] H := hP
  have hD : va_D A [(m0, .inr (10, [.int 0, .ref q_1, .ref q_3, .ref q_5, .null, .int 0, .int 0, .int 0, .null])), (q_1, .inr (1, [.int 0, .ref (D.2 50 0), .int 0])), (q_3, .inr (1, [.int 0, .ref (D.2 50 0), .int 0])), (q_5, .inr (1, [.int 0, .ref (D.2 50 0), .int 0]))] := hD
  refine lv_aload_n hx hb dX8_init_37 rfl (lv_at hl 0 rfl) ?_
  refine lv_bipush (v := 7) hx hb dX8_init_38 (by decide) ?_
  refine va_newa (atype := .int) (ty := .int) (N' := 7) (a0 := (7, .inl (fun _ => 0))) hx hb (hts _ zw_170) rfl hK hP hD hS hA (fun cA => rfl) (by decide) (by decide) (by decide) (Nat.le_of_ble_eq_true rfl) (Nat.le_of_ble_eq_true rfl) dX8_init_40 (fun q_7 cA_8 H hK hP hD hS => ?_)
  have hP : va_P D vwCl [(m0, .inr (10, [.int 0, .ref q_1, .ref q_3, .ref q_5, .null, .int 0, .int 0, .int 0, .null])), (q_1, .inr (1, [.int 0, .ref (D.2 50 0), .int 0])), (q_3, .inr (1, [.int 0, .ref (D.2 50 0), .int 0])), (q_5, .inr (1, [.int 0, .ref (D.2 50 0), .int 0])), (q_7, .inl (cA_8, 7, .inl (fun _ => 0)))] H := hP
  have hD : va_D A [(m0, .inr (10, [.int 0, .ref q_1, .ref q_3, .ref q_5, .null, .int 0, .int 0, .int 0, .null])), (q_1, .inr (1, [.int 0, .ref (D.2 50 0), .int 0])), (q_3, .inr (1, [.int 0, .ref (D.2 50 0), .int 0])), (q_5, .inr (1, [.int 0, .ref (D.2 50 0), .int 0])), (q_7, .inl (cA_8, 7, .inl (fun _ => 0)))] := hD
  have hK : va_K D vwCl [(cA_8, .int)] s := hK
  refine va_putF (D := D) (ci := 10) (v := .ref q_7) (ty := .array .int) (C := RX8) (T := TX8) (N := 9) hx hb hts zin_X8 tyX8 tyX8_ok nmX8 hown hK hP hD hS 0 rfl rfl 4 (by decide) (hts _ zw_1084) (fun _ h9 => h9) rfl hin rfl (by decide +kernel) rfl rfl (Nat.le_of_ble_eq_true rfl) dX8_init_42 (fun H locs hP hD hS => ?_)
  have hP : va_P D vwCl [(m0, .inr (10, [.int 0, .ref q_1, .ref q_3, .ref q_5, .ref q_7, .int 0, .int 0, .int 0, .null])), (q_1, .inr (1, [.int 0, .ref (D.2 50 0), .int 0])), (q_3, .inr (1, [.int 0, .ref (D.2 50 0), .int 0])), (q_5, .inr (1, [.int 0, .ref (D.2 50 0), .int 0])), (q_7, .inl (cA_8, 7, .inl (fun _ => 0)))] H := hP
  have hD : va_D A [(m0, .inr (10, [.int 0, .ref q_1, .ref q_3, .ref q_5, .ref q_7, .int 0, .int 0, .int 0, .null])), (q_1, .inr (1, [.int 0, .ref (D.2 50 0), .int 0])), (q_3, .inr (1, [.int 0, .ref (D.2 50 0), .int 0])), (q_5, .inr (1, [.int 0, .ref (D.2 50 0), .int 0])), (q_7, .inl (cA_8, 7, .inl (fun _ => 0)))] := hD
  refine lv_aload_n hx hb dX8_init_45 rfl (lv_at hl 0 rfl) ?_
  refine lv_iconst (v := -1) hx hb dX8_init_46 (by decide) ?_
  refine va_put (D := D) (ci := 10) (v := .int (-1)) (ty := .int) (C := RX8) (T := TX8) (N := 9) hx hb hts zin_X8 tyX8 tyX8_ok nmX8 hown hK hP hD hS 0 rfl rfl 6 (by decide) (hts _ zw_1086) (fun _ h9 => h9) rfl (by decide +kernel) rfl rfl (Nat.le_of_ble_eq_true rfl) dX8_init_47 (fun H locs hP hD hS => ?_)
  have hP : va_P D vwCl [(m0, .inr (10, [.int 0, .ref q_1, .ref q_3, .ref q_5, .ref q_7, .int 0, .int (-1), .int 0, .null])), (q_1, .inr (1, [.int 0, .ref (D.2 50 0), .int 0])), (q_3, .inr (1, [.int 0, .ref (D.2 50 0), .int 0])), (q_5, .inr (1, [.int 0, .ref (D.2 50 0), .int 0])), (q_7, .inl (cA_8, 7, .inl (fun _ => 0)))] H := hP
  have hD : va_D A [(m0, .inr (10, [.int 0, .ref q_1, .ref q_3, .ref q_5, .ref q_7, .int 0, .int (-1), .int 0, .null])), (q_1, .inr (1, [.int 0, .ref (D.2 50 0), .int 0])), (q_3, .inr (1, [.int 0, .ref (D.2 50 0), .int 0])), (q_5, .inr (1, [.int 0, .ref (D.2 50 0), .int 0])), (q_7, .inl (cA_8, 7, .inl (fun _ => 0)))] := hD
  refine lv_iconst (v := 0) hx hb dX8_init_50 (by decide) ?_
  refine lv_istore_n (lv' := [(1, .int 0), (0, .ref m0)]) hx hb dX8_init_51 rfl hl (by decide) rfl (fun ls hl => ?_)
  refine lv_iload_n hx hb dX8_init_52 rfl (lv_at hl 0 rfl) ?_
  refine lv_bipush (v := 7) hx hb dX8_init_53 (by decide) ?_
  refine lv_icmp_ge (tgt := 72) hx hb dX8_init_55 (by decide) (fun c_9 => absurd c_9 (by decide)) (fun c_9 => ?_)
  refine lv_aload_n hx hb dX8_init_58 rfl (lv_at hl 1 rfl) ?_
  refine va_get (D := D) (ci := 10) (v := .ref q_7) (C := RX8) (T := TX8) (N := 9) hx hb hts zin_X8 hown hK hP 0 rfl rfl 4 (by decide) (hts _ zw_1084) (fun _ h9 => h9) rfl dX8_init_59 ?_
  refine lv_iload_n hx hb dX8_init_62 rfl (lv_at hl 0 rfl) ?_
  refine lv_bipush (v := 100) hx hb dX8_init_63 (by decide) ?_
  refine va_iast hx hb hK hP hD hS 4 0 rfl rfl (i := 0) (by unfold vp_in; decide) dX8_init_65 (fun H locs hP hD hS => ?_)
  have hP : va_P D vwCl [(m0, .inr (10, [.int 0, .ref q_1, .ref q_3, .ref q_5, .ref q_7, .int 0, .int (-1), .int 0, .null])), (q_1, .inr (1, [.int 0, .ref (D.2 50 0), .int 0])), (q_3, .inr (1, [.int 0, .ref (D.2 50 0), .int 0])), (q_5, .inr (1, [.int 0, .ref (D.2 50 0), .int 0])), (q_7, .inl (cA_8, 7, .inl (upd (fun _ => 0) (0 : Int32).toNatClampNeg 100)))] H := hP
  have hD : va_D A [(m0, .inr (10, [.int 0, .ref q_1, .ref q_3, .ref q_5, .ref q_7, .int 0, .int (-1), .int 0, .null])), (q_1, .inr (1, [.int 0, .ref (D.2 50 0), .int 0])), (q_3, .inr (1, [.int 0, .ref (D.2 50 0), .int 0])), (q_5, .inr (1, [.int 0, .ref (D.2 50 0), .int 0])), (q_7, .inl (cA_8, 7, .inl (upd (fun _ => 0) (0 : Int32).toNatClampNeg 100)))] := hD
  refine lv_iinc (v := 1) (lv' := [(1, .int 1), (0, .ref m0)]) hx hb dX8_init_66 hl (k := 0) rfl (by decide) (by decide) rfl (fun ls hl => ?_)
  refine lv_goto (tgt := 52) hx hb dX8_init_69 (by decide) ?_
  refine lv_iload_n hx hb dX8_init_52 rfl (lv_at hl 0 rfl) ?_
  refine lv_bipush (v := 7) hx hb dX8_init_53 (by decide) ?_
  refine lv_icmp_ge (tgt := 72) hx hb dX8_init_55 (by decide) (fun c_10 => absurd c_10 (by decide)) (fun c_10 => ?_)
  refine lv_aload_n hx hb dX8_init_58 rfl (lv_at hl 1 rfl) ?_
  refine va_get (D := D) (ci := 10) (v := .ref q_7) (C := RX8) (T := TX8) (N := 9) hx hb hts zin_X8 hown hK hP 0 rfl rfl 4 (by decide) (hts _ zw_1084) (fun _ h9 => h9) rfl dX8_init_59 ?_
  refine lv_iload_n hx hb dX8_init_62 rfl (lv_at hl 0 rfl) ?_
  refine lv_bipush (v := 100) hx hb dX8_init_63 (by decide) ?_
  refine va_iast hx hb hK hP hD hS 4 0 rfl rfl (i := 1) (by unfold vp_in; decide) dX8_init_65 (fun H locs hP hD hS => ?_)
  have hP : va_P D vwCl [(m0, .inr (10, [.int 0, .ref q_1, .ref q_3, .ref q_5, .ref q_7, .int 0, .int (-1), .int 0, .null])), (q_1, .inr (1, [.int 0, .ref (D.2 50 0), .int 0])), (q_3, .inr (1, [.int 0, .ref (D.2 50 0), .int 0])), (q_5, .inr (1, [.int 0, .ref (D.2 50 0), .int 0])), (q_7, .inl (cA_8, 7, .inl (upd (upd (fun _ => 0) (0 : Int32).toNatClampNeg 100) (1 : Int32).toNatClampNeg 100)))] H := hP
  have hD : va_D A [(m0, .inr (10, [.int 0, .ref q_1, .ref q_3, .ref q_5, .ref q_7, .int 0, .int (-1), .int 0, .null])), (q_1, .inr (1, [.int 0, .ref (D.2 50 0), .int 0])), (q_3, .inr (1, [.int 0, .ref (D.2 50 0), .int 0])), (q_5, .inr (1, [.int 0, .ref (D.2 50 0), .int 0])), (q_7, .inl (cA_8, 7, .inl (upd (upd (fun _ => 0) (0 : Int32).toNatClampNeg 100) (1 : Int32).toNatClampNeg 100)))] := hD
  refine lv_iinc (v := 2) (lv' := [(1, .int 2), (0, .ref m0)]) hx hb dX8_init_66 hl (k := 0) rfl (by decide) (by decide) rfl (fun ls hl => ?_)
  refine lv_goto (tgt := 52) hx hb dX8_init_69 (by decide) ?_
  refine lv_iload_n hx hb dX8_init_52 rfl (lv_at hl 0 rfl) ?_
  refine lv_bipush (v := 7) hx hb dX8_init_53 (by decide) ?_
  refine lv_icmp_ge (tgt := 72) hx hb dX8_init_55 (by decide) (fun c_11 => absurd c_11 (by decide)) (fun c_11 => ?_)
  refine lv_aload_n hx hb dX8_init_58 rfl (lv_at hl 1 rfl) ?_
  refine va_get (D := D) (ci := 10) (v := .ref q_7) (C := RX8) (T := TX8) (N := 9) hx hb hts zin_X8 hown hK hP 0 rfl rfl 4 (by decide) (hts _ zw_1084) (fun _ h9 => h9) rfl dX8_init_59 ?_
  refine lv_iload_n hx hb dX8_init_62 rfl (lv_at hl 0 rfl) ?_
  refine lv_bipush (v := 100) hx hb dX8_init_63 (by decide) ?_
  refine va_iast hx hb hK hP hD hS 4 0 rfl rfl (i := 2) (by unfold vp_in; decide) dX8_init_65 (fun H locs hP hD hS => ?_)
  have hP : va_P D vwCl [(m0, .inr (10, [.int 0, .ref q_1, .ref q_3, .ref q_5, .ref q_7, .int 0, .int (-1), .int 0, .null])), (q_1, .inr (1, [.int 0, .ref (D.2 50 0), .int 0])), (q_3, .inr (1, [.int 0, .ref (D.2 50 0), .int 0])), (q_5, .inr (1, [.int 0, .ref (D.2 50 0), .int 0])), (q_7, .inl (cA_8, 7, .inl (upd (upd (upd (fun _ => 0) (0 : Int32).toNatClampNeg 100) (1 : Int32).toNatClampNeg 100) (2 : Int32).toNatClampNeg 100)))] H := hP
  have hD : va_D A [(m0, .inr (10, [.int 0, .ref q_1, .ref q_3, .ref q_5, .ref q_7, .int 0, .int (-1), .int 0, .null])), (q_1, .inr (1, [.int 0, .ref (D.2 50 0), .int 0])), (q_3, .inr (1, [.int 0, .ref (D.2 50 0), .int 0])), (q_5, .inr (1, [.int 0, .ref (D.2 50 0), .int 0])), (q_7, .inl (cA_8, 7, .inl (upd (upd (upd (fun _ => 0) (0 : Int32).toNatClampNeg 100) (1 : Int32).toNatClampNeg 100) (2 : Int32).toNatClampNeg 100)))] := hD
  refine lv_iinc (v := 3) (lv' := [(1, .int 3), (0, .ref m0)]) hx hb dX8_init_66 hl (k := 0) rfl (by decide) (by decide) rfl (fun ls hl => ?_)
  refine lv_goto (tgt := 52) hx hb dX8_init_69 (by decide) ?_
  refine lv_iload_n hx hb dX8_init_52 rfl (lv_at hl 0 rfl) ?_
  refine lv_bipush (v := 7) hx hb dX8_init_53 (by decide) ?_
  refine lv_icmp_ge (tgt := 72) hx hb dX8_init_55 (by decide) (fun c_12 => absurd c_12 (by decide)) (fun c_12 => ?_)
  refine lv_aload_n hx hb dX8_init_58 rfl (lv_at hl 1 rfl) ?_
  refine va_get (D := D) (ci := 10) (v := .ref q_7) (C := RX8) (T := TX8) (N := 9) hx hb hts zin_X8 hown hK hP 0 rfl rfl 4 (by decide) (hts _ zw_1084) (fun _ h9 => h9) rfl dX8_init_59 ?_
  refine lv_iload_n hx hb dX8_init_62 rfl (lv_at hl 0 rfl) ?_
  refine lv_bipush (v := 100) hx hb dX8_init_63 (by decide) ?_
  refine va_iast hx hb hK hP hD hS 4 0 rfl rfl (i := 3) (by unfold vp_in; decide) dX8_init_65 (fun H locs hP hD hS => ?_)
  have hP : va_P D vwCl [(m0, .inr (10, [.int 0, .ref q_1, .ref q_3, .ref q_5, .ref q_7, .int 0, .int (-1), .int 0, .null])), (q_1, .inr (1, [.int 0, .ref (D.2 50 0), .int 0])), (q_3, .inr (1, [.int 0, .ref (D.2 50 0), .int 0])), (q_5, .inr (1, [.int 0, .ref (D.2 50 0), .int 0])), (q_7, .inl (cA_8, 7, .inl (upd (upd (upd (upd (fun _ => 0) (0 : Int32).toNatClampNeg 100) (1 : Int32).toNatClampNeg 100) (2 : Int32).toNatClampNeg 100) (3 : Int32).toNatClampNeg 100)))] H := hP
  have hD : va_D A [(m0, .inr (10, [.int 0, .ref q_1, .ref q_3, .ref q_5, .ref q_7, .int 0, .int (-1), .int 0, .null])), (q_1, .inr (1, [.int 0, .ref (D.2 50 0), .int 0])), (q_3, .inr (1, [.int 0, .ref (D.2 50 0), .int 0])), (q_5, .inr (1, [.int 0, .ref (D.2 50 0), .int 0])), (q_7, .inl (cA_8, 7, .inl (upd (upd (upd (upd (fun _ => 0) (0 : Int32).toNatClampNeg 100) (1 : Int32).toNatClampNeg 100) (2 : Int32).toNatClampNeg 100) (3 : Int32).toNatClampNeg 100)))] := hD
  refine lv_iinc (v := 4) (lv' := [(1, .int 4), (0, .ref m0)]) hx hb dX8_init_66 hl (k := 0) rfl (by decide) (by decide) rfl (fun ls hl => ?_)
  refine lv_goto (tgt := 52) hx hb dX8_init_69 (by decide) ?_
  refine lv_iload_n hx hb dX8_init_52 rfl (lv_at hl 0 rfl) ?_
  refine lv_bipush (v := 7) hx hb dX8_init_53 (by decide) ?_
  refine lv_icmp_ge (tgt := 72) hx hb dX8_init_55 (by decide) (fun c_13 => absurd c_13 (by decide)) (fun c_13 => ?_)
  refine lv_aload_n hx hb dX8_init_58 rfl (lv_at hl 1 rfl) ?_
  refine va_get (D := D) (ci := 10) (v := .ref q_7) (C := RX8) (T := TX8) (N := 9) hx hb hts zin_X8 hown hK hP 0 rfl rfl 4 (by decide) (hts _ zw_1084) (fun _ h9 => h9) rfl dX8_init_59 ?_
  refine lv_iload_n hx hb dX8_init_62 rfl (lv_at hl 0 rfl) ?_
  refine lv_bipush (v := 100) hx hb dX8_init_63 (by decide) ?_
  refine va_iast hx hb hK hP hD hS 4 0 rfl rfl (i := 4) (by unfold vp_in; decide) dX8_init_65 (fun H locs hP hD hS => ?_)
  have hP : va_P D vwCl [(m0, .inr (10, [.int 0, .ref q_1, .ref q_3, .ref q_5, .ref q_7, .int 0, .int (-1), .int 0, .null])), (q_1, .inr (1, [.int 0, .ref (D.2 50 0), .int 0])), (q_3, .inr (1, [.int 0, .ref (D.2 50 0), .int 0])), (q_5, .inr (1, [.int 0, .ref (D.2 50 0), .int 0])), (q_7, .inl (cA_8, 7, .inl (upd (upd (upd (upd (upd (fun _ => 0) (0 : Int32).toNatClampNeg 100) (1 : Int32).toNatClampNeg 100) (2 : Int32).toNatClampNeg 100) (3 : Int32).toNatClampNeg 100) (4 : Int32).toNatClampNeg 100)))] H := hP
  have hD : va_D A [(m0, .inr (10, [.int 0, .ref q_1, .ref q_3, .ref q_5, .ref q_7, .int 0, .int (-1), .int 0, .null])), (q_1, .inr (1, [.int 0, .ref (D.2 50 0), .int 0])), (q_3, .inr (1, [.int 0, .ref (D.2 50 0), .int 0])), (q_5, .inr (1, [.int 0, .ref (D.2 50 0), .int 0])), (q_7, .inl (cA_8, 7, .inl (upd (upd (upd (upd (upd (fun _ => 0) (0 : Int32).toNatClampNeg 100) (1 : Int32).toNatClampNeg 100) (2 : Int32).toNatClampNeg 100) (3 : Int32).toNatClampNeg 100) (4 : Int32).toNatClampNeg 100)))] := hD
  refine lv_iinc (v := 5) (lv' := [(1, .int 5), (0, .ref m0)]) hx hb dX8_init_66 hl (k := 0) rfl (by decide) (by decide) rfl (fun ls hl => ?_)
  refine lv_goto (tgt := 52) hx hb dX8_init_69 (by decide) ?_
  refine lv_iload_n hx hb dX8_init_52 rfl (lv_at hl 0 rfl) ?_
  refine lv_bipush (v := 7) hx hb dX8_init_53 (by decide) ?_
  refine lv_icmp_ge (tgt := 72) hx hb dX8_init_55 (by decide) (fun c_14 => absurd c_14 (by decide)) (fun c_14 => ?_)
  refine lv_aload_n hx hb dX8_init_58 rfl (lv_at hl 1 rfl) ?_
  refine va_get (D := D) (ci := 10) (v := .ref q_7) (C := RX8) (T := TX8) (N := 9) hx hb hts zin_X8 hown hK hP 0 rfl rfl 4 (by decide) (hts _ zw_1084) (fun _ h9 => h9) rfl dX8_init_59 ?_
  refine lv_iload_n hx hb dX8_init_62 rfl (lv_at hl 0 rfl) ?_
  refine lv_bipush (v := 100) hx hb dX8_init_63 (by decide) ?_
  refine va_iast hx hb hK hP hD hS 4 0 rfl rfl (i := 5) (by unfold vp_in; decide) dX8_init_65 (fun H locs hP hD hS => ?_)
  have hP : va_P D vwCl [(m0, .inr (10, [.int 0, .ref q_1, .ref q_3, .ref q_5, .ref q_7, .int 0, .int (-1), .int 0, .null])), (q_1, .inr (1, [.int 0, .ref (D.2 50 0), .int 0])), (q_3, .inr (1, [.int 0, .ref (D.2 50 0), .int 0])), (q_5, .inr (1, [.int 0, .ref (D.2 50 0), .int 0])), (q_7, .inl (cA_8, 7, .inl (upd (upd (upd (upd (upd (upd (fun _ => 0) (0 : Int32).toNatClampNeg 100) (1 : Int32).toNatClampNeg 100) (2 : Int32).toNatClampNeg 100) (3 : Int32).toNatClampNeg 100) (4 : Int32).toNatClampNeg 100) (5 : Int32).toNatClampNeg 100)))] H := hP
  have hD : va_D A [(m0, .inr (10, [.int 0, .ref q_1, .ref q_3, .ref q_5, .ref q_7, .int 0, .int (-1), .int 0, .null])), (q_1, .inr (1, [.int 0, .ref (D.2 50 0), .int 0])), (q_3, .inr (1, [.int 0, .ref (D.2 50 0), .int 0])), (q_5, .inr (1, [.int 0, .ref (D.2 50 0), .int 0])), (q_7, .inl (cA_8, 7, .inl (upd (upd (upd (upd (upd (upd (fun _ => 0) (0 : Int32).toNatClampNeg 100) (1 : Int32).toNatClampNeg 100) (2 : Int32).toNatClampNeg 100) (3 : Int32).toNatClampNeg 100) (4 : Int32).toNatClampNeg 100) (5 : Int32).toNatClampNeg 100)))] := hD
  refine lv_iinc (v := 6) (lv' := [(1, .int 6), (0, .ref m0)]) hx hb dX8_init_66 hl (k := 0) rfl (by decide) (by decide) rfl (fun ls hl => ?_)
  refine lv_goto (tgt := 52) hx hb dX8_init_69 (by decide) ?_
  refine lv_iload_n hx hb dX8_init_52 rfl (lv_at hl 0 rfl) ?_
  refine lv_bipush (v := 7) hx hb dX8_init_53 (by decide) ?_
  refine lv_icmp_ge (tgt := 72) hx hb dX8_init_55 (by decide) (fun c_15 => absurd c_15 (by decide)) (fun c_15 => ?_)
  refine lv_aload_n hx hb dX8_init_58 rfl (lv_at hl 1 rfl) ?_
  refine va_get (D := D) (ci := 10) (v := .ref q_7) (C := RX8) (T := TX8) (N := 9) hx hb hts zin_X8 hown hK hP 0 rfl rfl 4 (by decide) (hts _ zw_1084) (fun _ h9 => h9) rfl dX8_init_59 ?_
  refine lv_iload_n hx hb dX8_init_62 rfl (lv_at hl 0 rfl) ?_
  refine lv_bipush (v := 100) hx hb dX8_init_63 (by decide) ?_
  refine va_iast hx hb hK hP hD hS 4 0 rfl rfl (i := 6) (by unfold vp_in; decide) dX8_init_65 (fun H locs hP hD hS => ?_)
  have hP : va_P D vwCl [(m0, .inr (10, [.int 0, .ref q_1, .ref q_3, .ref q_5, .ref q_7, .int 0, .int (-1), .int 0, .null])), (q_1, .inr (1, [.int 0, .ref (D.2 50 0), .int 0])), (q_3, .inr (1, [.int 0, .ref (D.2 50 0), .int 0])), (q_5, .inr (1, [.int 0, .ref (D.2 50 0), .int 0])), (q_7, .inl (cA_8, 7, .inl (upd (upd (upd (upd (upd (upd (upd (fun _ => 0) (0 : Int32).toNatClampNeg 100) (1 : Int32).toNatClampNeg 100) (2 : Int32).toNatClampNeg 100) (3 : Int32).toNatClampNeg 100) (4 : Int32).toNatClampNeg 100) (5 : Int32).toNatClampNeg 100) (6 : Int32).toNatClampNeg 100)))] H := hP
  have hD : va_D A [(m0, .inr (10, [.int 0, .ref q_1, .ref q_3, .ref q_5, .ref q_7, .int 0, .int (-1), .int 0, .null])), (q_1, .inr (1, [.int 0, .ref (D.2 50 0), .int 0])), (q_3, .inr (1, [.int 0, .ref (D.2 50 0), .int 0])), (q_5, .inr (1, [.int 0, .ref (D.2 50 0), .int 0])), (q_7, .inl (cA_8, 7, .inl (upd (upd (upd (upd (upd (upd (upd (fun _ => 0) (0 : Int32).toNatClampNeg 100) (1 : Int32).toNatClampNeg 100) (2 : Int32).toNatClampNeg 100) (3 : Int32).toNatClampNeg 100) (4 : Int32).toNatClampNeg 100) (5 : Int32).toNatClampNeg 100) (6 : Int32).toNatClampNeg 100)))] := hD
  refine lv_iinc (v := 7) (lv' := [(1, .int 7), (0, .ref m0)]) hx hb dX8_init_66 hl (k := 0) rfl (by decide) (by decide) rfl (fun ls hl => ?_)
  refine lv_goto (tgt := 52) hx hb dX8_init_69 (by decide) ?_
  refine lv_iload_n hx hb dX8_init_52 rfl (lv_at hl 0 rfl) ?_
  refine lv_bipush (v := 7) hx hb dX8_init_53 (by decide) ?_
  refine lv_icmp_ge (tgt := 72) hx hb dX8_init_55 (by decide) (fun c_16 => ?_) (fun c_16 => absurd (by decide) c_16)
  exact W.vret hx hb hr (fun t ht hW => ⟨⟨(), rfl, trivial, ⟨q_1, q_3, q_5, q_7, cA_8, _, (by decide), z_end hP hK hD [0, 1, 2, 3, 4] rfl rfl [0] rfl ht hW.alike⟩⟩, hS.F ht⟩) hS.2.2 dX8_init_72
theorem dX8_thrown_0 : decode cX8_thrown 0 = .ok (.aload_n 0, 1) := by decide +kernel
theorem dX8_thrown_1 : decode cX8_thrown 1 = .ok (.getfield 30, 3) := by decide +kernel
theorem dX8_thrown_4 : decode cX8_thrown 4 = .ok (.ireturn, 1) := by decide +kernel
set_option maxHeartbeats 4000000 in
set_option maxRecDepth 100000 in
theorem g_X8_thrown (l : Launch) (D : va_G) (m0 : Nat) (qu : Nat) (qs : Nat) (qc : Nat) (qp : Nat) (th : Int32) (sz : Nat)  : Met l yX8_thrown [Cond.code yX8_thrown cX8_thrown 1 (some .int)] ({ frames := 0, cells := 0, slots := 0, locals := 0 }) (z_Pc D [.ref m0] [(m0, .inr (10, [.int th, .ref qu, .ref qs, .ref qc, .ref qp, .int 0, .int (-1), .int 0, .null]))] [] sz) (va_Qi (fun (r : Int32) (_ : Unit) => r = th) (fun _ t => z_W D [(m0, .inr (10, [.int th, .ref qu, .ref qs, .ref qc, .ref qp, .int 0, .int (-1), .int 0, .null]))] [] (va_A [(m0, .inr (10, [.int th, .ref qu, .ref qs, .ref qc, .ref qp, .int 0, .int (-1), .int 0, .null]))] sz) t) (va_A [(m0, .inr (10, [.int th, .ref qu, .ref qs, .ref qc, .ref qp, .int 0, .int (-1), .int 0, .null]))] sz)) 0 0 (va_A [(m0, .inr (10, [.int th, .ref qu, .ref qs, .ref qc, .ref qp, .int 0, .int (-1), .int 0, .null]))] sz) := by
  refine Met.ofW (cc := cX8_thrown) (maxL := 1) (ret := (some .int)) (by decide +kernel) rfl ?_
  intro p e s m args below meth c s₁ B hml hv
  obtain ⟨rfl, hsz, hP, hK, hD0, hE, hX0⟩ := hv
  have hx := B.exec
  have hb := B.bytes
  have hr := B.returns
  have hts := z_E.ts (args := [.ref m0].toArray) hE
  have hown : s.vm.findClass RX8 = some m.cls := findClass_of_methodNamed B.named
  have hlocks := B.notSynchronized
  subst hsz
  have hD := hD0.self (sz := s.heap.size)
  generalize hAe : va_A [(m0, .inr (10, [.int th, .ref qu, .ref qs, .ref qc, .ref qp, .int 0, .int (-1), .int 0, .null]))] s.heap.size = A at hD hX0 ⊢
  have hX : z_X D A s s.heap := hX0
  have hA : ∀ q : Nat, s.heap.size ≤ q → A q := fun q h => by rw [← hAe]; exact Or.inr h
  have hS : va_S A s.heap s.heap [] := va_S.rf
  have hP : va_P D vwCl [(m0, .inr (10, [.int th, .ref qu, .ref qs, .ref qc, .ref qp, .int 0, .int (-1), .int 0, .null]))] s.heap := hP
  have hl := lv_entry ([.ref m0]) (n := 1) (Nat.le_of_ble_eq_true rfl)
  rw [lg_entry_eq]
  generalize (lg_sl ([.ref m0]) ++ List.replicate (1 - (lg_sl ([.ref m0])).length) Slot.unset).toArray = ls at hl ⊢
  have hl : lv_has ls 1 [(0, .ref m0)] := hl
  skip
  refine lv_aload_n hx hb dX8_thrown_0 rfl (lv_at hl 0 rfl) ?_
  refine va_get (D := D) (ci := 10) (v := .int th) (C := RX8) (T := TX8) (N := 9) hx hb hts zin_X8 hown hK hP 0 rfl rfl 0 (by decide) (hts _ zw_1080) (fun _ h9 => h9) rfl dX8_thrown_1 ?_
  exact W.iret (v := th) hx hb hr (fun t ht hW => ⟨⟨th, (), rfl, rfl, z_end hP hK hD [0] rfl rfl [] rfl ht hW.alike⟩, hS.F ht⟩) hS.2.2 dX8_thrown_4
theorem dX8_day_0 : decode cX8_day 0 = .ok (.aload_n 0, 1) := by decide +kernel
theorem dX8_day_1 : decode cX8_day 1 = .ok (.iconst 0, 1) := by decide +kernel
theorem dX8_day_2 : decode cX8_day 2 = .ok (.putfield 30, 3) := by decide +kernel
theorem dX8_day_5 : decode cX8_day 5 = .ok (.aload_n 0, 1) := by decide +kernel
theorem dX8_day_6 : decode cX8_day 6 = .ok (.getfield 105, 3) := by decide +kernel
theorem zw_1085 : Cond.fieldLink RX8 105 "TwofrontArcadeModel" "day" "I" ∈ z_Ts := z_m 1085 (by decide +kernel) (by decide +kernel)
theorem dX8_day_9 : decode cX8_day 9 = .ok (.ireturn, 1) := by decide +kernel
set_option maxHeartbeats 4000000 in
set_option maxRecDepth 100000 in
theorem g_X8_day (l : Launch) (D : va_G) (m0 : Nat) (qu : Nat) (qs : Nat) (qc : Nat) (qp : Nat) (th : Int32) (sz : Nat)  : Met l yX8_day [Cond.code yX8_day cX8_day 1 (some .int)] ({ frames := 0, cells := 0, slots := 0, locals := 0 }) (z_Pc D [.ref m0] [(m0, .inr (10, [.int th, .ref qu, .ref qs, .ref qc, .ref qp, .int 0, .int (-1), .int 0, .null]))] [] sz) (va_Qi (fun (r : Int32) (_ : Unit) => r = 0) (fun _ t => z_W D [(m0, .inr (10, [.int 0, .ref qu, .ref qs, .ref qc, .ref qp, .int 0, .int (-1), .int 0, .null]))] [] (va_A [(m0, .inr (10, [.int th, .ref qu, .ref qs, .ref qc, .ref qp, .int 0, .int (-1), .int 0, .null]))] sz) t) (va_A [(m0, .inr (10, [.int th, .ref qu, .ref qs, .ref qc, .ref qp, .int 0, .int (-1), .int 0, .null]))] sz)) 0 0 (va_A [(m0, .inr (10, [.int th, .ref qu, .ref qs, .ref qc, .ref qp, .int 0, .int (-1), .int 0, .null]))] sz) := by
  refine Met.ofW (cc := cX8_day) (maxL := 1) (ret := (some .int)) (by decide +kernel) rfl ?_
  intro p e s m args below meth c s₁ B hml hv
  obtain ⟨rfl, hsz, hP, hK, hD0, hE, hX0⟩ := hv
  have hx := B.exec
  have hb := B.bytes
  have hr := B.returns
  have hts := z_E.ts (args := [.ref m0].toArray) hE
  have hown : s.vm.findClass RX8 = some m.cls := findClass_of_methodNamed B.named
  have hlocks := B.notSynchronized
  subst hsz
  have hD := hD0.self (sz := s.heap.size)
  generalize hAe : va_A [(m0, .inr (10, [.int th, .ref qu, .ref qs, .ref qc, .ref qp, .int 0, .int (-1), .int 0, .null]))] s.heap.size = A at hD hX0 ⊢
  have hX : z_X D A s s.heap := hX0
  have hA : ∀ q : Nat, s.heap.size ≤ q → A q := fun q h => by rw [← hAe]; exact Or.inr h
  have hS : va_S A s.heap s.heap [] := va_S.rf
  have hP : va_P D vwCl [(m0, .inr (10, [.int th, .ref qu, .ref qs, .ref qc, .ref qp, .int 0, .int (-1), .int 0, .null]))] s.heap := hP
  have hl := lv_entry ([.ref m0]) (n := 1) (Nat.le_of_ble_eq_true rfl)
  rw [lg_entry_eq]
  generalize (lg_sl ([.ref m0]) ++ List.replicate (1 - (lg_sl ([.ref m0])).length) Slot.unset).toArray = ls at hl ⊢
  have hl : lv_has ls 1 [(0, .ref m0)] := hl
  skip
  refine lv_aload_n hx hb dX8_day_0 rfl (lv_at hl 0 rfl) ?_
  refine lv_iconst (v := 0) hx hb dX8_day_1 (by decide) ?_
  refine va_put (D := D) (ci := 10) (v := .int 0) (ty := .int) (C := RX8) (T := TX8) (N := 9) hx hb hts zin_X8 tyX8 tyX8_ok nmX8 hown hK hP hD hS 0 rfl rfl 0 (by decide) (hts _ zw_1080) (fun _ h9 => h9) rfl (by decide +kernel) rfl rfl (Nat.le_of_ble_eq_true rfl) dX8_day_2 (fun H locs hP hD hS => ?_)
  have hP : va_P D vwCl [(m0, .inr (10, [.int 0, .ref qu, .ref qs, .ref qc, .ref qp, .int 0, .int (-1), .int 0, .null]))] H := hP
  have hD : va_D A [(m0, .inr (10, [.int 0, .ref qu, .ref qs, .ref qc, .ref qp, .int 0, .int (-1), .int 0, .null]))] := hD
  refine lv_aload_n hx hb dX8_day_5 rfl (lv_at hl 0 rfl) ?_
  refine va_get (D := D) (ci := 10) (v := .int 0) (C := RX8) (T := TX8) (N := 9) hx hb hts zin_X8 hown hK hP 0 rfl rfl 5 (by decide) (hts _ zw_1085) (fun _ h9 => h9) rfl dX8_day_6 ?_
  exact W.iret (v := 0) hx hb hr (fun t ht hW => ⟨⟨0, (), rfl, rfl, z_end hP hK hD [0] rfl rfl [] rfl ht hW.alike⟩, hS.F ht⟩) hS.2.2 dX8_day_9
theorem dX8_isSound_0 : decode cX8_isSound 0 = .ok (.aload_n 0, 1) := by decide +kernel
theorem dX8_isSound_1 : decode cX8_isSound 1 = .ok (.iconst 0, 1) := by decide +kernel
theorem dX8_isSound_2 : decode cX8_isSound 2 = .ok (.putfield 30, 3) := by decide +kernel
theorem dX8_isSound_5 : decode cX8_isSound 5 = .ok (.iconst 1, 1) := by decide +kernel
theorem dX8_isSound_6 : decode cX8_isSound 6 = .ok (.ireturn, 1) := by decide +kernel
set_option maxHeartbeats 4000000 in
set_option maxRecDepth 100000 in
theorem g_X8_isSound (l : Launch) (D : va_G) (m0 : Nat) (qu : Nat) (qs : Nat) (qc : Nat) (qp : Nat) (th : Int32) (sz : Nat)  : Met l yX8_isSound [Cond.code yX8_isSound cX8_isSound 1 (some .boolean)] ({ frames := 0, cells := 0, slots := 0, locals := 0 }) (z_Pc D [.ref m0] [(m0, .inr (10, [.int th, .ref qu, .ref qs, .ref qc, .ref qp, .int 0, .int (-1), .int 0, .null]))] [] sz) (va_Qi (fun (r : Int32) (_ : Unit) => r = 1) (fun _ t => z_W D [(m0, .inr (10, [.int 0, .ref qu, .ref qs, .ref qc, .ref qp, .int 0, .int (-1), .int 0, .null]))] [] (va_A [(m0, .inr (10, [.int th, .ref qu, .ref qs, .ref qc, .ref qp, .int 0, .int (-1), .int 0, .null]))] sz) t) (va_A [(m0, .inr (10, [.int th, .ref qu, .ref qs, .ref qc, .ref qp, .int 0, .int (-1), .int 0, .null]))] sz)) 0 0 (va_A [(m0, .inr (10, [.int th, .ref qu, .ref qs, .ref qc, .ref qp, .int 0, .int (-1), .int 0, .null]))] sz) := by
  refine Met.ofW (cc := cX8_isSound) (maxL := 1) (ret := (some .boolean)) (by decide +kernel) rfl ?_
  intro p e s m args below meth c s₁ B hml hv
  obtain ⟨rfl, hsz, hP, hK, hD0, hE, hX0⟩ := hv
  have hx := B.exec
  have hb := B.bytes
  have hr := B.returns
  have hts := z_E.ts (args := [.ref m0].toArray) hE
  have hown : s.vm.findClass RX8 = some m.cls := findClass_of_methodNamed B.named
  have hlocks := B.notSynchronized
  subst hsz
  have hD := hD0.self (sz := s.heap.size)
  generalize hAe : va_A [(m0, .inr (10, [.int th, .ref qu, .ref qs, .ref qc, .ref qp, .int 0, .int (-1), .int 0, .null]))] s.heap.size = A at hD hX0 ⊢
  have hX : z_X D A s s.heap := hX0
  have hA : ∀ q : Nat, s.heap.size ≤ q → A q := fun q h => by rw [← hAe]; exact Or.inr h
  have hS : va_S A s.heap s.heap [] := va_S.rf
  have hP : va_P D vwCl [(m0, .inr (10, [.int th, .ref qu, .ref qs, .ref qc, .ref qp, .int 0, .int (-1), .int 0, .null]))] s.heap := hP
  have hl := lv_entry ([.ref m0]) (n := 1) (Nat.le_of_ble_eq_true rfl)
  rw [lg_entry_eq]
  generalize (lg_sl ([.ref m0]) ++ List.replicate (1 - (lg_sl ([.ref m0])).length) Slot.unset).toArray = ls at hl ⊢
  have hl : lv_has ls 1 [(0, .ref m0)] := hl
  skip
  refine lv_aload_n hx hb dX8_isSound_0 rfl (lv_at hl 0 rfl) ?_
  refine lv_iconst (v := 0) hx hb dX8_isSound_1 (by decide) ?_
  refine va_put (D := D) (ci := 10) (v := .int 0) (ty := .int) (C := RX8) (T := TX8) (N := 9) hx hb hts zin_X8 tyX8 tyX8_ok nmX8 hown hK hP hD hS 0 rfl rfl 0 (by decide) (hts _ zw_1080) (fun _ h9 => h9) rfl (by decide +kernel) rfl rfl (Nat.le_of_ble_eq_true rfl) dX8_isSound_2 (fun H locs hP hD hS => ?_)
  have hP : va_P D vwCl [(m0, .inr (10, [.int 0, .ref qu, .ref qs, .ref qc, .ref qp, .int 0, .int (-1), .int 0, .null]))] H := hP
  have hD : va_D A [(m0, .inr (10, [.int 0, .ref qu, .ref qs, .ref qc, .ref qp, .int 0, .int (-1), .int 0, .null]))] := hD
  refine lv_iconst (v := 1) hx hb dX8_isSound_5 (by decide) ?_
  exact W.zret (v := 1) hx hb hr (by first | rfl | decide) (fun t ht hW => ⟨⟨1, (), rfl, rfl, z_end hP hK hD [0] rfl rfl [] rfl ht hW.alike⟩, hS.F ht⟩) hS.2.2 dX8_isSound_6
theorem dX8_fits_0 : decode cX8_fits 0 = .ok (.iconst 1, 1) := by decide +kernel
theorem dX8_fits_1 : decode cX8_fits 1 = .ok (.istore 4, 2) := by decide +kernel
theorem dX8_fits_3 : decode cX8_fits 3 = .ok (.iconst 0, 1) := by decide +kernel
theorem dX8_fits_4 : decode cX8_fits 4 = .ok (.istore 5, 2) := by decide +kernel
theorem dX8_fits_6 : decode cX8_fits 6 = .ok (.iload 5, 2) := by decide +kernel
theorem dX8_fits_8 : decode cX8_fits 8 = .ok (.aload_n 0, 1) := by decide +kernel
theorem dX8_fits_9 : decode cX8_fits 9 = .ok (.getfield 10, 3) := by decide +kernel
theorem dX8_fits_12 : decode cX8_fits 12 = .ok (.invokevirtual 33, 3) := by decide +kernel
theorem dX8_fits_15 : decode cX8_fits 15 = .ok (.if_icmp .ge 39, 3) := by decide +kernel
theorem dX8_fits_54 : decode cX8_fits 54 = .ok (.iload 4, 2) := by decide +kernel
theorem dX8_fits_56 : decode cX8_fits 56 = .ok (.ireturn, 1) := by decide +kernel
set_option maxHeartbeats 4000000 in
set_option maxRecDepth 100000 in
theorem g_X8_fits (l : Launch) (D : va_G) (m0 : Nat) (qu : Nat) (qs : Nat) (qc : Nat) (qp : Nat) (th : Int32) (eu : Nat) (a0 : Int32) (a1 : Int32) (a2 : Int32) (sz : Nat)  : Met l yX8_fits [Cond.code yX8_fits cX8_fits 6 (some .boolean)] ({ frames := 1, cells := 0, slots := 0, locals := 40 }) (z_Pc D [.ref m0, .int a0, .int a1, .int a2] [(m0, .inr (10, [.int th, .ref qu, .ref qs, .ref qc, .ref qp, .int 0, .int (-1), .int 0, .null])), (qu, .inr (1, [.int 0, .ref eu, .int 0]))] [] sz) (va_Qi (fun (r : Int32) (_ : Unit) => r = 1) (fun _ t => z_W D [(m0, .inr (10, [.int th, .ref qu, .ref qs, .ref qc, .ref qp, .int 0, .int (-1), .int 0, .null])), (qu, .inr (1, [.int 0, .ref eu, .int 0]))] [] (va_A [(m0, .inr (10, [.int th, .ref qu, .ref qs, .ref qc, .ref qp, .int 0, .int (-1), .int 0, .null])), (qu, .inr (1, [.int 0, .ref eu, .int 0]))] sz) t) (va_A [(m0, .inr (10, [.int th, .ref qu, .ref qs, .ref qc, .ref qp, .int 0, .int (-1), .int 0, .null])), (qu, .inr (1, [.int 0, .ref eu, .int 0]))] sz)) 0 0 (va_A [(m0, .inr (10, [.int th, .ref qu, .ref qs, .ref qc, .ref qp, .int 0, .int (-1), .int 0, .null])), (qu, .inr (1, [.int 0, .ref eu, .int 0]))] sz) := by
  refine Met.ofW (cc := cX8_fits) (maxL := 6) (ret := (some .boolean)) (by decide +kernel) rfl ?_
  intro p e s m args below meth c s₁ B hml hv
  obtain ⟨rfl, hsz, hP, hK, hD0, hE, hX0⟩ := hv
  have hx := B.exec
  have hb := B.bytes
  have hr := B.returns
  have hts := z_E.ts (args := [.ref m0, .int a0, .int a1, .int a2].toArray) hE
  have hown : s.vm.findClass RX8 = some m.cls := findClass_of_methodNamed B.named
  have hlocks := B.notSynchronized
  subst hsz
  have hD := hD0.self (sz := s.heap.size)
  generalize hAe : va_A [(m0, .inr (10, [.int th, .ref qu, .ref qs, .ref qc, .ref qp, .int 0, .int (-1), .int 0, .null])), (qu, .inr (1, [.int 0, .ref eu, .int 0]))] s.heap.size = A at hD hX0 ⊢
  have hX : z_X D A s s.heap := hX0
  have hA : ∀ q : Nat, s.heap.size ≤ q → A q := fun q h => by rw [← hAe]; exact Or.inr h
  have hS : va_S A s.heap s.heap [] := va_S.rf
  have hP : va_P D vwCl [(m0, .inr (10, [.int th, .ref qu, .ref qs, .ref qc, .ref qp, .int 0, .int (-1), .int 0, .null])), (qu, .inr (1, [.int 0, .ref eu, .int 0]))] s.heap := hP
  have hl := lv_entry ([.ref m0, .int a0, .int a1, .int a2]) (n := 6) (Nat.le_of_ble_eq_true rfl)
  rw [lg_entry_eq]
  generalize (lg_sl ([.ref m0, .int a0, .int a1, .int a2]) ++ List.replicate (6 - (lg_sl ([.ref m0, .int a0, .int a1, .int a2])).length) Slot.unset).toArray = ls at hl ⊢
  have hl : lv_has ls 6 [(0, .ref m0), (1, .int a0), (2, .int a1), (3, .int a2)] := hl
  skip
  refine lv_iconst (v := 1) hx hb dX8_fits_0 (by decide) ?_
  refine lv_istore (lv' := [(4, .int 1), (0, .ref m0), (1, .int a0), (2, .int a1), (3, .int a2)]) hx hb dX8_fits_1 hl (by decide) rfl (fun ls hl => ?_)
  refine lv_iconst (v := 0) hx hb dX8_fits_3 (by decide) ?_
  refine lv_istore (lv' := [(5, .int 0), (4, .int 1), (0, .ref m0), (1, .int a0), (2, .int a1), (3, .int a2)]) hx hb dX8_fits_4 hl (by decide) rfl (fun ls hl => ?_)
  refine lv_iload hx hb dX8_fits_6 (lv_at hl 0 rfl) ?_
  refine lv_aload_n hx hb dX8_fits_8 rfl (lv_at hl 2 rfl) ?_
  refine va_get (D := D) (ci := 10) (v := .ref qu) (C := RX8) (T := TX8) (N := 9) hx hb hts zin_X8 hown hK hP 0 rfl rfl 1 (by decide) (hts _ zw_1081) (fun _ h9 => h9) rfl dX8_fits_9 ?_
  obtain ⟨hb_1, hc_1⟩ := z_call (wc := [(qu, .inr (1, [.int 0, .ref eu, .int 0]))]) (tc := []) ([.ref qu]) hP hK hD hS hA hE hX [1] rfl rfl [] rfl
  have hF_1 := va_free (wc := [(qu, .inr (1, [.int 0, .ref eu, .int 0]))]) hD hS hA [1] rfl
  refine va_calli (va_runV (As := []) (rest := [.int 0]) ⟨hx, hb, hml, hown, hts⟩ (c_J_size l D qu 0 eu 0 _ ) (z_cV 0 hE zw_1125 zw_1126 zw_1127 zw_99 zw_1128 rfl rfl rfl (by decide +kernel) ⟨(Nat.le_of_ble_eq_true rfl), (Nat.le_of_ble_eq_true rfl)⟩) ⟨hb_1, va_recv hK hP (ci := 1) (q0 := 1) rfl rfl, hc_1⟩ rfl rfl hl.1 rfl (lv_room (Nat.le_of_ble_eq_true rfl)) dX8_fits_12 ⟨(Nat.le_of_ble_eq_true rfl), (Nat.le_of_ble_eq_true rfl)⟩) hS (fun q _ h => hF_1 q h) hF_1 (fun r_1 u_1 t_1 H1 locs ht_1 hvm_1 hw_1 hB_1 hz_1 hk_1 hS1 => ?_)
  obtain ⟨hP, hK, hD⟩ := z_back (wc := [(qu, .inr (1, [.int 0, .ref eu, .int 0]))]) (wr := [(m0, .inr (10, [.int th, .ref qu, .ref qs, .ref qc, .ref qp, .int 0, .int (-1), .int 0, .null]))]) (w1 := [(qu, .inr (1, [.int 0, .ref eu, .int 0]))]) (tr := []) hP hK hD [1] [0] rfl rfl rfl (by decide) ht_1 hvm_1 hk_1 hF_1 [] rfl hB_1
  have hS := hS1
  have hP : va_P D vwCl [(m0, .inr (10, [.int th, .ref qu, .ref qs, .ref qc, .ref qp, .int 0, .int (-1), .int 0, .null])), (qu, .inr (1, [.int 0, .ref eu, .int 0]))] H1 := hP
  have hD : va_D A [(m0, .inr (10, [.int th, .ref qu, .ref qs, .ref qc, .ref qp, .int 0, .int (-1), .int 0, .null])), (qu, .inr (1, [.int 0, .ref eu, .int 0]))] := hD
  have hK : va_K D vwCl [] s := hK
  clear hS1
  obtain rfl : r_1 = 0 := hw_1
  refine lv_icmp_ge (tgt := 54) hx hb dX8_fits_15 (by decide) (fun c_2 => ?_) (fun c_2 => absurd (by decide) c_2)
  refine lv_iload hx hb dX8_fits_54 (lv_at hl 1 rfl) ?_
  exact W.zret (v := 1) hx hb hr (by first | rfl | decide) (fun t ht hW => ⟨⟨1, (), rfl, rfl, z_end hP hK hD [0, 1] rfl rfl [] rfl ht hW.alike⟩, hS.F ht⟩) hS.2.2 dX8_fits_56
theorem dX8_areWide_0 : decode cX8_areWide 0 = .ok (.aload_n 0, 1) := by decide +kernel
theorem dX8_areWide_1 : decode cX8_areWide 1 = .ok (.iconst 0, 1) := by decide +kernel
theorem dX8_areWide_2 : decode cX8_areWide 2 = .ok (.putfield 30, 3) := by decide +kernel
theorem dX8_areWide_5 : decode cX8_areWide 5 = .ok (.aload_n 0, 1) := by decide +kernel
theorem dX8_areWide_6 : decode cX8_areWide 6 = .ok (.iconst (-1), 1) := by decide +kernel
theorem dX8_areWide_7 : decode cX8_areWide 7 = .ok (.iconst (-1), 1) := by decide +kernel
theorem dX8_areWide_8 : decode cX8_areWide 8 = .ok (.iconst (-1), 1) := by decide +kernel
theorem dX8_areWide_9 : decode cX8_areWide 9 = .ok (.invokevirtual 128, 3) := by decide +kernel
theorem zw_1351 : Cond.methodLink RX8 128 yX8_fits ∈ z_Ts := z_m 1351 (by decide +kernel) (by decide +kernel)
theorem zw_1353 : Cond.instanceMethod yX8_fits ∈ z_Ts := z_m 1353 (by decide +kernel) (by decide +kernel)
theorem zw_69 : Cond.selects RX8 yX8_fits yX8_fits ∈ z_Ts := z_m 69 (by decide +kernel) (by decide +kernel)
theorem zw_1354 : Cond.code yX8_fits cX8_fits 6 (some .boolean) ∈ z_Ts := z_m 1354 (by decide +kernel) (by decide +kernel)
theorem dX8_areWide_12 : decode cX8_areWide 12 = .ok (.ireturn, 1) := by decide +kernel
set_option maxHeartbeats 4000000 in
set_option maxRecDepth 100000 in
theorem g_X8_areWide (l : Launch) (D : va_G) (m0 : Nat) (qu : Nat) (qs : Nat) (qc : Nat) (qp : Nat) (th : Int32) (eu : Nat) (sz : Nat)  : Met l yX8_areWide [Cond.code yX8_areWide cX8_areWide 1 (some .boolean)] ({ frames := 2, cells := 0, slots := 0, locals := 70 }) (z_Pc D [.ref m0] [(m0, .inr (10, [.int th, .ref qu, .ref qs, .ref qc, .ref qp, .int 0, .int (-1), .int 0, .null])), (qu, .inr (1, [.int 0, .ref eu, .int 0]))] [] sz) (va_Qi (fun (r : Int32) (_ : Unit) => r = 1) (fun _ t => z_W D [(m0, .inr (10, [.int 0, .ref qu, .ref qs, .ref qc, .ref qp, .int 0, .int (-1), .int 0, .null])), (qu, .inr (1, [.int 0, .ref eu, .int 0]))] [] (va_A [(m0, .inr (10, [.int th, .ref qu, .ref qs, .ref qc, .ref qp, .int 0, .int (-1), .int 0, .null])), (qu, .inr (1, [.int 0, .ref eu, .int 0]))] sz) t) (va_A [(m0, .inr (10, [.int th, .ref qu, .ref qs, .ref qc, .ref qp, .int 0, .int (-1), .int 0, .null])), (qu, .inr (1, [.int 0, .ref eu, .int 0]))] sz)) 0 0 (va_A [(m0, .inr (10, [.int th, .ref qu, .ref qs, .ref qc, .ref qp, .int 0, .int (-1), .int 0, .null])), (qu, .inr (1, [.int 0, .ref eu, .int 0]))] sz) := by
  refine Met.ofW (cc := cX8_areWide) (maxL := 1) (ret := (some .boolean)) (by decide +kernel) rfl ?_
  intro p e s m args below meth c s₁ B hml hv
  obtain ⟨rfl, hsz, hP, hK, hD0, hE, hX0⟩ := hv
  have hx := B.exec
  have hb := B.bytes
  have hr := B.returns
  have hts := z_E.ts (args := [.ref m0].toArray) hE
  have hown : s.vm.findClass RX8 = some m.cls := findClass_of_methodNamed B.named
  have hlocks := B.notSynchronized
  subst hsz
  have hD := hD0.self (sz := s.heap.size)
  generalize hAe : va_A [(m0, .inr (10, [.int th, .ref qu, .ref qs, .ref qc, .ref qp, .int 0, .int (-1), .int 0, .null])), (qu, .inr (1, [.int 0, .ref eu, .int 0]))] s.heap.size = A at hD hX0 ⊢
  have hX : z_X D A s s.heap := hX0
  have hA : ∀ q : Nat, s.heap.size ≤ q → A q := fun q h => by rw [← hAe]; exact Or.inr h
  have hS : va_S A s.heap s.heap [] := va_S.rf
  have hP : va_P D vwCl [(m0, .inr (10, [.int th, .ref qu, .ref qs, .ref qc, .ref qp, .int 0, .int (-1), .int 0, .null])), (qu, .inr (1, [.int 0, .ref eu, .int 0]))] s.heap := hP
  have hl := lv_entry ([.ref m0]) (n := 1) (Nat.le_of_ble_eq_true rfl)
  rw [lg_entry_eq]
  generalize (lg_sl ([.ref m0]) ++ List.replicate (1 - (lg_sl ([.ref m0])).length) Slot.unset).toArray = ls at hl ⊢
  have hl : lv_has ls 1 [(0, .ref m0)] := hl
  skip
  refine lv_aload_n hx hb dX8_areWide_0 rfl (lv_at hl 0 rfl) ?_
  refine lv_iconst (v := 0) hx hb dX8_areWide_1 (by decide) ?_
  refine va_put (D := D) (ci := 10) (v := .int 0) (ty := .int) (C := RX8) (T := TX8) (N := 9) hx hb hts zin_X8 tyX8 tyX8_ok nmX8 hown hK hP hD hS 0 rfl rfl 0 (by decide) (hts _ zw_1080) (fun _ h9 => h9) rfl (by decide +kernel) rfl rfl (Nat.le_of_ble_eq_true rfl) dX8_areWide_2 (fun H locs hP hD hS => ?_)
  have hP : va_P D vwCl [(m0, .inr (10, [.int 0, .ref qu, .ref qs, .ref qc, .ref qp, .int 0, .int (-1), .int 0, .null])), (qu, .inr (1, [.int 0, .ref eu, .int 0]))] H := hP
  have hD : va_D A [(m0, .inr (10, [.int 0, .ref qu, .ref qs, .ref qc, .ref qp, .int 0, .int (-1), .int 0, .null])), (qu, .inr (1, [.int 0, .ref eu, .int 0]))] := hD
  refine lv_aload_n hx hb dX8_areWide_5 rfl (lv_at hl 0 rfl) ?_
  refine lv_iconst (v := -1) hx hb dX8_areWide_6 (by decide) ?_
  refine lv_iconst (v := -1) hx hb dX8_areWide_7 (by decide) ?_
  refine lv_iconst (v := -1) hx hb dX8_areWide_8 (by decide) ?_
  obtain ⟨hb_1, hc_1⟩ := z_call (wc := [(m0, .inr (10, [.int 0, .ref qu, .ref qs, .ref qc, .ref qp, .int 0, .int (-1), .int 0, .null])), (qu, .inr (1, [.int 0, .ref eu, .int 0]))]) (tc := []) ([.ref m0, .int (-1), .int (-1), .int (-1)]) hP hK hD hS hA hE hX [0, 1] rfl rfl [] rfl
  have hF_1 := va_free (wc := [(m0, .inr (10, [.int 0, .ref qu, .ref qs, .ref qc, .ref qp, .int 0, .int (-1), .int 0, .null])), (qu, .inr (1, [.int 0, .ref eu, .int 0]))]) hD hS hA [0, 1] rfl
  refine va_calli (va_runV (As := [.int (-1), .int (-1), .int (-1)]) (rest := []) ⟨hx, hb, hml, hown, hts⟩ (g_X8_fits l D m0 qu qs qc qp 0 eu (-1) (-1) (-1) _ ) (z_cV 3 hE zw_1351 zw_1353 zw_69 zw_96 zw_1354 rfl rfl rfl (by decide +kernel) ⟨(Nat.le_of_ble_eq_true rfl), (Nat.le_of_ble_eq_true rfl)⟩) ⟨hb_1, va_recv hK hP (ci := 10) (q0 := 0) rfl rfl, hc_1⟩ rfl rfl hl.1 rfl (lv_room (Nat.le_of_ble_eq_true rfl)) dX8_areWide_9 ⟨(Nat.le_of_ble_eq_true rfl), (Nat.le_of_ble_eq_true rfl)⟩) hS (fun q _ h => hF_1 q h) hF_1 (fun r_1 u_1 t_1 H1 locs ht_1 hvm_1 hw_1 hB_1 hz_1 hk_1 hS1 => ?_)
  obtain ⟨hP, hK, hD⟩ := z_back (wc := [(m0, .inr (10, [.int 0, .ref qu, .ref qs, .ref qc, .ref qp, .int 0, .int (-1), .int 0, .null])), (qu, .inr (1, [.int 0, .ref eu, .int 0]))]) (wr := []) (w1 := [(m0, .inr (10, [.int 0, .ref qu, .ref qs, .ref qc, .ref qp, .int 0, .int (-1), .int 0, .null])), (qu, .inr (1, [.int 0, .ref eu, .int 0]))]) (tr := []) hP hK hD [0, 1] [] rfl rfl rfl (by decide) ht_1 hvm_1 hk_1 hF_1 [] rfl hB_1
  have hS := hS1
  have hP : va_P D vwCl [(m0, .inr (10, [.int 0, .ref qu, .ref qs, .ref qc, .ref qp, .int 0, .int (-1), .int 0, .null])), (qu, .inr (1, [.int 0, .ref eu, .int 0]))] H1 := hP
  have hD : va_D A [(m0, .inr (10, [.int 0, .ref qu, .ref qs, .ref qc, .ref qp, .int 0, .int (-1), .int 0, .null])), (qu, .inr (1, [.int 0, .ref eu, .int 0]))] := hD
  have hK : va_K D vwCl [] s := hK
  clear hS1
  obtain rfl : r_1 = 1 := hw_1
  exact W.zret (v := 1) hx hb hr (by first | rfl | decide) (fun t ht hW => ⟨⟨1, (), rfl, rfl, z_end hP hK hD [0, 1] rfl rfl [] rfl ht hW.alike⟩, hS.F ht⟩) hS.2.2 dX8_areWide_12
theorem dX8_fund_0 : decode cX8_fund 0 = .ok (.aload_n 0, 1) := by decide +kernel
theorem dX8_fund_1 : decode cX8_fund 1 = .ok (.iconst 0, 1) := by decide +kernel
theorem dX8_fund_2 : decode cX8_fund 2 = .ok (.putfield 30, 3) := by decide +kernel
theorem dX8_fund_5 : decode cX8_fund 5 = .ok (.lconst 0, 1) := by decide +kernel
theorem dX8_fund_6 : decode cX8_fund 6 = .ok (.lstore_n 1, 1) := by decide +kernel
theorem dX8_fund_7 : decode cX8_fund 7 = .ok (.aload_n 0, 1) := by decide +kernel
theorem dX8_fund_8 : decode cX8_fund 8 = .ok (.getfield 16, 3) := by decide +kernel
theorem dX8_fund_11 : decode cX8_fund 11 = .ok (.invokevirtual 85, 3) := by decide +kernel
theorem zw_1256 : Cond.methodLink RX8 85 yJx4a65c_iterator_32c93 ∈ z_Ts := z_m 1256 (by decide +kernel) (by decide +kernel)
theorem zw_1257 : Cond.instanceMethod yJx4a65c_iterator_32c93 ∈ z_Ts := z_m 1257 (by decide +kernel) (by decide +kernel)
theorem zw_1258 : Cond.selects RJx4a65c yJx4a65c_iterator_32c93 yJx4a65c_iterator_32c93 ∈ z_Ts := z_m 1258 (by decide +kernel) (by decide +kernel)
theorem zw_1259 : Cond.code yJx4a65c_iterator_32c93 cJx4a65c_iterator_32c93 1 (some (.object "java/util/Iterator")) ∈ z_Ts := z_m 1259 (by decide +kernel) (by decide +kernel)
theorem dX8_fund_14 : decode cX8_fund 14 = .ok (.astore_n 3, 1) := by decide +kernel
theorem dX8_fund_15 : decode cX8_fund 15 = .ok (.aload_n 3, 1) := by decide +kernel
theorem dX8_fund_16 : decode cX8_fund 16 = .ok (.invokeinterface 89 1, 5) := by decide +kernel
theorem zw_1280 : Cond.methodLink RX8 89 ⟨"java/util/Iterator", "hasNext", "()Z"⟩ ∈ z_Ts := z_m 1280 (by decide +kernel) (by decide +kernel)
theorem zw_1284 : Cond.selects RJx35411 ⟨"java/util/Iterator", "hasNext", "()Z"⟩ yJx35411_hasNext_aae02 ∈ z_Ts := z_m 1284 (by decide +kernel) (by decide +kernel)
theorem zw_1286 : Cond.instanceMethod yJx35411_hasNext_aae02 ∈ z_Ts := z_m 1286 (by decide +kernel) (by decide +kernel)
theorem zw_1288 : Cond.code yJx35411_hasNext_aae02 cJx35411_hasNext_aae02 1 (some .boolean) ∈ z_Ts := z_m 1288 (by decide +kernel) (by decide +kernel)
theorem dX8_fund_21 : decode cX8_fund 21 = .ok (.ifCond .eq 47, 3) := by decide +kernel
theorem dX8_fund_68 : decode cX8_fund 68 = .ok (.lload_n 1, 1) := by decide +kernel
theorem dX8_fund_69 : decode cX8_fund 69 = .ok (.lreturn, 1) := by decide +kernel
set_option maxHeartbeats 4000000 in
set_option maxRecDepth 100000 in
theorem g_X8_fund (l : Launch) (D : va_G) (m0 : Nat) (qu : Nat) (qs : Nat) (qc : Nat) (qp : Nat) (th : Int32) (es : Nat) (sz : Nat)  : Met l yX8_fund [Cond.code yX8_fund cX8_fund 5 (some .long)] ({ frames := 3, cells := 1, slots := 4, locals := 100 }) (z_Pc D [.ref m0] [(m0, .inr (10, [.int th, .ref qu, .ref qs, .ref qc, .ref qp, .int 0, .int (-1), .int 0, .null])), (qs, .inr (1, [.int 0, .ref es, .int 0]))] [] sz) (va_Ql (fun (r : Int64) (_ : Unit) => r = 0) (fun _ t => z_W D [(m0, .inr (10, [.int 0, .ref qu, .ref qs, .ref qc, .ref qp, .int 0, .int (-1), .int 0, .null])), (qs, .inr (1, [.int 0, .ref es, .int 0]))] [] (va_A [(m0, .inr (10, [.int th, .ref qu, .ref qs, .ref qc, .ref qp, .int 0, .int (-1), .int 0, .null])), (qs, .inr (1, [.int 0, .ref es, .int 0]))] sz) t) (va_A [(m0, .inr (10, [.int th, .ref qu, .ref qs, .ref qc, .ref qp, .int 0, .int (-1), .int 0, .null])), (qs, .inr (1, [.int 0, .ref es, .int 0]))] sz)) 1 4 (va_A [(m0, .inr (10, [.int th, .ref qu, .ref qs, .ref qc, .ref qp, .int 0, .int (-1), .int 0, .null])), (qs, .inr (1, [.int 0, .ref es, .int 0]))] sz) := by
  refine Met.ofW (cc := cX8_fund) (maxL := 5) (ret := (some .long)) (by decide +kernel) rfl ?_
  intro p e s m args below meth c s₁ B hml hv
  obtain ⟨rfl, hsz, hP, hK, hD0, hE, hX0⟩ := hv
  have hx := B.exec
  have hb := B.bytes
  have hr := B.returns
  have hts := z_E.ts (args := [.ref m0].toArray) hE
  have hown : s.vm.findClass RX8 = some m.cls := findClass_of_methodNamed B.named
  have hlocks := B.notSynchronized
  subst hsz
  have hD := hD0.self (sz := s.heap.size)
  generalize hAe : va_A [(m0, .inr (10, [.int th, .ref qu, .ref qs, .ref qc, .ref qp, .int 0, .int (-1), .int 0, .null])), (qs, .inr (1, [.int 0, .ref es, .int 0]))] s.heap.size = A at hD hX0 ⊢
  have hX : z_X D A s s.heap := hX0
  have hA : ∀ q : Nat, s.heap.size ≤ q → A q := fun q h => by rw [← hAe]; exact Or.inr h
  have hS : va_S A s.heap s.heap [] := va_S.rf
  have hP : va_P D vwCl [(m0, .inr (10, [.int th, .ref qu, .ref qs, .ref qc, .ref qp, .int 0, .int (-1), .int 0, .null])), (qs, .inr (1, [.int 0, .ref es, .int 0]))] s.heap := hP
  have hl := lv_entry ([.ref m0]) (n := 5) (Nat.le_of_ble_eq_true rfl)
  rw [lg_entry_eq]
  generalize (lg_sl ([.ref m0]) ++ List.replicate (5 - (lg_sl ([.ref m0])).length) Slot.unset).toArray = ls at hl ⊢
  have hl : lv_has ls 5 [(0, .ref m0)] := hl
  skip
  refine lv_aload_n hx hb dX8_fund_0 rfl (lv_at hl 0 rfl) ?_
  refine lv_iconst (v := 0) hx hb dX8_fund_1 (by decide) ?_
  refine va_put (D := D) (ci := 10) (v := .int 0) (ty := .int) (C := RX8) (T := TX8) (N := 9) hx hb hts zin_X8 tyX8 tyX8_ok nmX8 hown hK hP hD hS 0 rfl rfl 0 (by decide) (hts _ zw_1080) (fun _ h9 => h9) rfl (by decide +kernel) rfl rfl (Nat.le_of_ble_eq_true rfl) dX8_fund_2 (fun H locs hP hD hS => ?_)
  have hP : va_P D vwCl [(m0, .inr (10, [.int 0, .ref qu, .ref qs, .ref qc, .ref qp, .int 0, .int (-1), .int 0, .null])), (qs, .inr (1, [.int 0, .ref es, .int 0]))] H := hP
  have hD : va_D A [(m0, .inr (10, [.int 0, .ref qu, .ref qs, .ref qc, .ref qp, .int 0, .int (-1), .int 0, .null])), (qs, .inr (1, [.int 0, .ref es, .int 0]))] := hD
  refine lv_lconst (v := 0) hx hb dX8_fund_5 (by decide) ?_
  refine lv_lstore_n (lv' := [(1, .long 0), (0, .ref m0)]) hx hb dX8_fund_6 rfl hl (by decide) rfl (fun ls hl => ?_)
  refine lv_aload_n hx hb dX8_fund_7 rfl (lv_at hl 1 rfl) ?_
  refine va_get (D := D) (ci := 10) (v := .ref qs) (C := RX8) (T := TX8) (N := 9) hx hb hts zin_X8 hown hK hP 0 rfl rfl 2 (by decide) (hts _ zw_1082) (fun _ h9 => h9) rfl dX8_fund_8 ?_
  obtain ⟨hb_2, hc_2⟩ := z_call (wc := [(qs, .inr (1, [.int 0, .ref es, .int 0]))]) (tc := []) ([.ref qs]) hP hK hD hS hA hE hX [1] rfl rfl [] rfl
  have hF_2 := va_free (wc := [(qs, .inr (1, [.int 0, .ref es, .int 0]))]) hD hS hA [1] rfl
  refine va_callr (va_runV (As := []) (rest := []) ⟨hx, hb, hml, hown, hts⟩ (c_al_iterator l D qs es _ ) (z_cV 0 hE zw_1256 zw_1257 zw_1258 zw_99 zw_1259 rfl rfl rfl (by decide +kernel) ⟨(Nat.le_of_ble_eq_true rfl), (Nat.le_of_ble_eq_true rfl)⟩) ⟨hb_2, va_recv hK hP (ci := 1) (q0 := 1) rfl rfl, hc_2⟩ rfl rfl hl.1 rfl (lv_room (Nat.le_of_ble_eq_true rfl)) dX8_fund_11 ⟨(Nat.le_of_ble_eq_true rfl), (Nat.le_of_ble_eq_true rfl)⟩) hS (fun q _ h => hF_2 q h) hF_2 (fun u_2 it_1 t_2 H1 locs ht_2 hvm_2 hw_2 hB_2 hz_2 hk_2 hS1 => ?_)
  obtain ⟨hP, hK, hD⟩ := z_back (wc := [(qs, .inr (1, [.int 0, .ref es, .int 0]))]) (wr := [(m0, .inr (10, [.int 0, .ref qu, .ref qs, .ref qc, .ref qp, .int 0, .int (-1), .int 0, .null]))]) (w1 := [(qs, .inr (1, [.int 0, .ref es, .int 0])), (it_1, .inr (0, [.int 0, .int (-1), .int 0, .ref qs]))]) (tr := []) hP hK hD [1] [0] rfl rfl rfl (by decide) ht_2 hvm_2 hk_2 hF_2 [] rfl hB_2
  have hS := hS1
  have hP : va_P D vwCl [(m0, .inr (10, [.int 0, .ref qu, .ref qs, .ref qc, .ref qp, .int 0, .int (-1), .int 0, .null])), (qs, .inr (1, [.int 0, .ref es, .int 0])), (it_1, .inr (0, [.int 0, .int (-1), .int 0, .ref qs]))] H1 := hP
  have hD : va_D A [(m0, .inr (10, [.int 0, .ref qu, .ref qs, .ref qc, .ref qp, .int 0, .int (-1), .int 0, .null])), (qs, .inr (1, [.int 0, .ref es, .int 0])), (it_1, .inr (0, [.int 0, .int (-1), .int 0, .ref qs]))] := hD
  have hK : va_K D vwCl [] s := hK
  clear hS1
  refine lv_astore_n (lv' := [(3, .ref it_1), (1, .long 0), (0, .ref m0)]) hx hb dX8_fund_14 rfl hl (by decide) rfl (fun ls hl => ?_)
  refine lv_aload_n hx hb dX8_fund_15 rfl (lv_at hl 0 rfl) ?_
  obtain ⟨hb_3, hc_3⟩ := z_call (wc := [(it_1, .inr (0, [.int 0, .int (-1), .int 0, .ref qs])), (qs, .inr (1, [.int 0, .ref es, .int 0]))]) (tc := []) ([.ref it_1]) hP hK hD hS hA hE hX [2, 1] rfl rfl [] rfl
  have hF_3 := va_free (wc := [(it_1, .inr (0, [.int 0, .int (-1), .int 0, .ref qs])), (qs, .inr (1, [.int 0, .ref es, .int 0]))]) hD hS hA [2, 1] rfl
  refine va_callFi (va_runF (As := []) (rest := []) (hK.1 0 _ rfl).2 ⟨hx, hb, hml, hown, hts⟩ (c_itr_hasNext l D it_1 qs es _) (z_cF 0 hE zw_1280 zw_1284 zw_1286 zw_115 zw_1288 rfl rfl rfl (hX.2.1.1) (by decide +kernel) ⟨(Nat.le_of_ble_eq_true rfl), (Nat.le_of_ble_eq_true rfl)⟩) ⟨hb_3, va_recv hK hP (ci := 0) (q0 := 2) rfl rfl, hc_3⟩ rfl rfl hl.1 rfl (lv_room (Nat.le_of_ble_eq_true rfl)) dX8_fund_16 ⟨(Nat.le_of_ble_eq_true rfl), (Nat.le_of_ble_eq_true rfl)⟩) hS (fun q _ h => hF_3 q h) hF_3 (fun r_3 u_3 t_3 H1 locs ht_3 hvm_3 hw_3 hB_3 hz_3 hk_3 hS1 => ?_)
  obtain ⟨hP, hK, hD⟩ := z_back (wc := [(it_1, .inr (0, [.int 0, .int (-1), .int 0, .ref qs])), (qs, .inr (1, [.int 0, .ref es, .int 0]))]) (wr := [(m0, .inr (10, [.int 0, .ref qu, .ref qs, .ref qc, .ref qp, .int 0, .int (-1), .int 0, .null]))]) (w1 := [(it_1, .inr (0, [.int 0, .int (-1), .int 0, .ref qs])), (qs, .inr (1, [.int 0, .ref es, .int 0]))]) (tr := []) hP hK hD [2, 1] [0] rfl rfl rfl (by decide) ht_3 hvm_3 hk_3 hF_3 [] rfl hB_3
  have hS := hS1
  have hP : va_P D vwCl [(m0, .inr (10, [.int 0, .ref qu, .ref qs, .ref qc, .ref qp, .int 0, .int (-1), .int 0, .null])), (it_1, .inr (0, [.int 0, .int (-1), .int 0, .ref qs])), (qs, .inr (1, [.int 0, .ref es, .int 0]))] H1 := hP
  have hD : va_D A [(m0, .inr (10, [.int 0, .ref qu, .ref qs, .ref qc, .ref qp, .int 0, .int (-1), .int 0, .null])), (it_1, .inr (0, [.int 0, .int (-1), .int 0, .ref qs])), (qs, .inr (1, [.int 0, .ref es, .int 0]))] := hD
  have hK : va_K D vwCl [] s := hK
  clear hS1
  obtain rfl : r_3 = 0 := hw_3
  refine lv_if_eq (tgt := 68) hx hb dX8_fund_21 (by decide) (fun c_4 => ?_) (fun c_4 => absurd (by decide) c_4)
  refine lv_lload_n hx hb dX8_fund_68 rfl (lv_at hl 1 rfl) ?_
  exact W.lret (v := 0) hx hb hr (fun t ht hW => ⟨⟨0, (), rfl, rfl, z_end hP hK hD [0, 2] rfl rfl [] rfl ht hW.alike⟩, hS.F ht⟩) hS.2.2 dX8_fund_69
theorem dX8_checksum_0 : decode cX8_checksum 0 = .ok (.aload_n 0, 1) := by decide +kernel
theorem dX8_checksum_1 : decode cX8_checksum 1 = .ok (.iconst 0, 1) := by decide +kernel
theorem dX8_checksum_2 : decode cX8_checksum 2 = .ok (.putfield 30, 3) := by decide +kernel
theorem dX8_checksum_5 : decode cX8_checksum 5 = .ok (.ldc2_w 302, 3) := by decide +kernel
theorem zw_1735 : Cond.constantLong RX8 302 7 ∈ z_Ts := z_m 1735 (by decide +kernel) (by decide +kernel)
theorem dX8_checksum_8 : decode cX8_checksum 8 = .ok (.lstore_n 1, 1) := by decide +kernel
theorem dX8_checksum_9 : decode cX8_checksum 9 = .ok (.aload_n 0, 1) := by decide +kernel
theorem dX8_checksum_10 : decode cX8_checksum 10 = .ok (.getfield 16, 3) := by decide +kernel
theorem dX8_checksum_13 : decode cX8_checksum 13 = .ok (.invokevirtual 85, 3) := by decide +kernel
theorem dX8_checksum_16 : decode cX8_checksum 16 = .ok (.astore_n 3, 1) := by decide +kernel
theorem dX8_checksum_17 : decode cX8_checksum 17 = .ok (.aload_n 3, 1) := by decide +kernel
theorem dX8_checksum_18 : decode cX8_checksum 18 = .ok (.invokeinterface 89 1, 5) := by decide +kernel
theorem dX8_checksum_23 : decode cX8_checksum 23 = .ok (.ifCond .eq 55, 3) := by decide +kernel
theorem dX8_checksum_78 : decode cX8_checksum 78 = .ok (.aload_n 0, 1) := by decide +kernel
theorem dX8_checksum_79 : decode cX8_checksum 79 = .ok (.getfield 10, 3) := by decide +kernel
theorem dX8_checksum_82 : decode cX8_checksum 82 = .ok (.invokevirtual 85, 3) := by decide +kernel
theorem dX8_checksum_85 : decode cX8_checksum 85 = .ok (.astore_n 3, 1) := by decide +kernel
theorem dX8_checksum_86 : decode cX8_checksum 86 = .ok (.aload_n 3, 1) := by decide +kernel
theorem dX8_checksum_87 : decode cX8_checksum 87 = .ok (.invokeinterface 89 1, 5) := by decide +kernel
theorem dX8_checksum_92 : decode cX8_checksum 92 = .ok (.ifCond .eq 30, 3) := by decide +kernel
theorem dX8_checksum_122 : decode cX8_checksum 122 = .ok (.ldc2_w 304, 3) := by decide +kernel
theorem zw_1736 : Cond.constantLong RX8 304 31 ∈ z_Ts := z_m 1736 (by decide +kernel) (by decide +kernel)
theorem dX8_checksum_125 : decode cX8_checksum 125 = .ok (.lload_n 1, 1) := by decide +kernel
theorem dX8_checksum_126 : decode cX8_checksum 126 = .ok (.lmul, 1) := by decide +kernel
theorem dX8_checksum_127 : decode cX8_checksum 127 = .ok (.aload_n 0, 1) := by decide +kernel
theorem dX8_checksum_128 : decode cX8_checksum 128 = .ok (.getfield 105, 3) := by decide +kernel
theorem dX8_checksum_131 : decode cX8_checksum 131 = .ok (.i2l, 1) := by decide +kernel
theorem dX8_checksum_132 : decode cX8_checksum 132 = .ok (.ladd, 1) := by decide +kernel
theorem dX8_checksum_133 : decode cX8_checksum 133 = .ok (.lreturn, 1) := by decide +kernel
set_option maxHeartbeats 4000000 in
set_option maxRecDepth 100000 in
theorem g_X8_checksum (l : Launch) (D : va_G) (m0 : Nat) (qu : Nat) (qs : Nat) (qc : Nat) (qp : Nat) (th : Int32) (eu : Nat) (es : Nat) (sz : Nat)  : Met l yX8_checksum [Cond.code yX8_checksum cX8_checksum 5 (some .long)] ({ frames := 3, cells := 2, slots := 8, locals := 100 }) (z_Pc D [.ref m0] [(m0, .inr (10, [.int th, .ref qu, .ref qs, .ref qc, .ref qp, .int 0, .int (-1), .int 0, .null])), (qu, .inr (1, [.int 0, .ref eu, .int 0])), (qs, .inr (1, [.int 0, .ref es, .int 0]))] [] sz) (va_Ql (fun (r : Int64) (_ : Unit) => r = 217) (fun _ t => z_W D [(m0, .inr (10, [.int 0, .ref qu, .ref qs, .ref qc, .ref qp, .int 0, .int (-1), .int 0, .null])), (qu, .inr (1, [.int 0, .ref eu, .int 0])), (qs, .inr (1, [.int 0, .ref es, .int 0]))] [] (va_A [(m0, .inr (10, [.int th, .ref qu, .ref qs, .ref qc, .ref qp, .int 0, .int (-1), .int 0, .null])), (qu, .inr (1, [.int 0, .ref eu, .int 0])), (qs, .inr (1, [.int 0, .ref es, .int 0]))] sz) t) (va_A [(m0, .inr (10, [.int th, .ref qu, .ref qs, .ref qc, .ref qp, .int 0, .int (-1), .int 0, .null])), (qu, .inr (1, [.int 0, .ref eu, .int 0])), (qs, .inr (1, [.int 0, .ref es, .int 0]))] sz)) 2 8 (va_A [(m0, .inr (10, [.int th, .ref qu, .ref qs, .ref qc, .ref qp, .int 0, .int (-1), .int 0, .null])), (qu, .inr (1, [.int 0, .ref eu, .int 0])), (qs, .inr (1, [.int 0, .ref es, .int 0]))] sz) := by
  refine Met.ofW (cc := cX8_checksum) (maxL := 5) (ret := (some .long)) (by decide +kernel) rfl ?_
  intro p e s m args below meth c s₁ B hml hv
  obtain ⟨rfl, hsz, hP, hK, hD0, hE, hX0⟩ := hv
  have hx := B.exec
  have hb := B.bytes
  have hr := B.returns
  have hts := z_E.ts (args := [.ref m0].toArray) hE
  have hown : s.vm.findClass RX8 = some m.cls := findClass_of_methodNamed B.named
  have hlocks := B.notSynchronized
  subst hsz
  have hD := hD0.self (sz := s.heap.size)
  generalize hAe : va_A [(m0, .inr (10, [.int th, .ref qu, .ref qs, .ref qc, .ref qp, .int 0, .int (-1), .int 0, .null])), (qu, .inr (1, [.int 0, .ref eu, .int 0])), (qs, .inr (1, [.int 0, .ref es, .int 0]))] s.heap.size = A at hD hX0 ⊢
  have hX : z_X D A s s.heap := hX0
  have hA : ∀ q : Nat, s.heap.size ≤ q → A q := fun q h => by rw [← hAe]; exact Or.inr h
  have hS : va_S A s.heap s.heap [] := va_S.rf
  have hP : va_P D vwCl [(m0, .inr (10, [.int th, .ref qu, .ref qs, .ref qc, .ref qp, .int 0, .int (-1), .int 0, .null])), (qu, .inr (1, [.int 0, .ref eu, .int 0])), (qs, .inr (1, [.int 0, .ref es, .int 0]))] s.heap := hP
  have hl := lv_entry ([.ref m0]) (n := 5) (Nat.le_of_ble_eq_true rfl)
  rw [lg_entry_eq]
  generalize (lg_sl ([.ref m0]) ++ List.replicate (5 - (lg_sl ([.ref m0])).length) Slot.unset).toArray = ls at hl ⊢
  have hl : lv_has ls 5 [(0, .ref m0)] := hl
  skip
  refine lv_aload_n hx hb dX8_checksum_0 rfl (lv_at hl 0 rfl) ?_
  refine lv_iconst (v := 0) hx hb dX8_checksum_1 (by decide) ?_
  refine va_put (D := D) (ci := 10) (v := .int 0) (ty := .int) (C := RX8) (T := TX8) (N := 9) hx hb hts zin_X8 tyX8 tyX8_ok nmX8 hown hK hP hD hS 0 rfl rfl 0 (by decide) (hts _ zw_1080) (fun _ h9 => h9) rfl (by decide +kernel) rfl rfl (Nat.le_of_ble_eq_true rfl) dX8_checksum_2 (fun H locs hP hD hS => ?_)
  have hP : va_P D vwCl [(m0, .inr (10, [.int 0, .ref qu, .ref qs, .ref qc, .ref qp, .int 0, .int (-1), .int 0, .null])), (qu, .inr (1, [.int 0, .ref eu, .int 0])), (qs, .inr (1, [.int 0, .ref es, .int 0]))] H := hP
  have hD : va_D A [(m0, .inr (10, [.int 0, .ref qu, .ref qs, .ref qc, .ref qp, .int 0, .int (-1), .int 0, .null])), (qu, .inr (1, [.int 0, .ref eu, .int 0])), (qs, .inr (1, [.int 0, .ref es, .int 0]))] := hD
  refine lv_ldc2 hx hb hown (hts _ zw_1735) dX8_checksum_5 ?_
  refine lv_lstore_n (lv' := [(1, .long 7), (0, .ref m0)]) hx hb dX8_checksum_8 rfl hl (by decide) rfl (fun ls hl => ?_)
  refine lv_aload_n hx hb dX8_checksum_9 rfl (lv_at hl 1 rfl) ?_
  refine va_get (D := D) (ci := 10) (v := .ref qs) (C := RX8) (T := TX8) (N := 9) hx hb hts zin_X8 hown hK hP 0 rfl rfl 2 (by decide) (hts _ zw_1082) (fun _ h9 => h9) rfl dX8_checksum_10 ?_
  obtain ⟨hb_2, hc_2⟩ := z_call (wc := [(qs, .inr (1, [.int 0, .ref es, .int 0]))]) (tc := []) ([.ref qs]) hP hK hD hS hA hE hX [2] rfl rfl [] rfl
  have hF_2 := va_free (wc := [(qs, .inr (1, [.int 0, .ref es, .int 0]))]) hD hS hA [2] rfl
  refine va_callr (va_runV (As := []) (rest := []) ⟨hx, hb, hml, hown, hts⟩ (c_al_iterator l D qs es _ ) (z_cV 0 hE zw_1256 zw_1257 zw_1258 zw_99 zw_1259 rfl rfl rfl (by decide +kernel) ⟨(Nat.le_of_ble_eq_true rfl), (Nat.le_of_ble_eq_true rfl)⟩) ⟨hb_2, va_recv hK hP (ci := 1) (q0 := 2) rfl rfl, hc_2⟩ rfl rfl hl.1 rfl (lv_room (Nat.le_of_ble_eq_true rfl)) dX8_checksum_13 ⟨(Nat.le_of_ble_eq_true rfl), (Nat.le_of_ble_eq_true rfl)⟩) hS (fun q _ h => hF_2 q h) hF_2 (fun u_2 it_1 t_2 H1 locs ht_2 hvm_2 hw_2 hB_2 hz_2 hk_2 hS1 => ?_)
  obtain ⟨hP, hK, hD⟩ := z_back (wc := [(qs, .inr (1, [.int 0, .ref es, .int 0]))]) (wr := [(m0, .inr (10, [.int 0, .ref qu, .ref qs, .ref qc, .ref qp, .int 0, .int (-1), .int 0, .null])), (qu, .inr (1, [.int 0, .ref eu, .int 0]))]) (w1 := [(qs, .inr (1, [.int 0, .ref es, .int 0])), (it_1, .inr (0, [.int 0, .int (-1), .int 0, .ref qs]))]) (tr := []) hP hK hD [2] [0, 1] rfl rfl rfl (by decide) ht_2 hvm_2 hk_2 hF_2 [] rfl hB_2
  have hS := hS1
  have hP : va_P D vwCl [(m0, .inr (10, [.int 0, .ref qu, .ref qs, .ref qc, .ref qp, .int 0, .int (-1), .int 0, .null])), (qu, .inr (1, [.int 0, .ref eu, .int 0])), (qs, .inr (1, [.int 0, .ref es, .int 0])), (it_1, .inr (0, [.int 0, .int (-1), .int 0, .ref qs]))] H1 := hP
  have hD : va_D A [(m0, .inr (10, [.int 0, .ref qu, .ref qs, .ref qc, .ref qp, .int 0, .int (-1), .int 0, .null])), (qu, .inr (1, [.int 0, .ref eu, .int 0])), (qs, .inr (1, [.int 0, .ref es, .int 0])), (it_1, .inr (0, [.int 0, .int (-1), .int 0, .ref qs]))] := hD
  have hK : va_K D vwCl [] s := hK
  clear hS1
  refine lv_astore_n (lv' := [(3, .ref it_1), (1, .long 7), (0, .ref m0)]) hx hb dX8_checksum_16 rfl hl (by decide) rfl (fun ls hl => ?_)
  refine lv_aload_n hx hb dX8_checksum_17 rfl (lv_at hl 0 rfl) ?_
  obtain ⟨hb_3, hc_3⟩ := z_call (wc := [(it_1, .inr (0, [.int 0, .int (-1), .int 0, .ref qs])), (qs, .inr (1, [.int 0, .ref es, .int 0]))]) (tc := []) ([.ref it_1]) hP hK hD hS hA hE hX [3, 2] rfl rfl [] rfl
  have hF_3 := va_free (wc := [(it_1, .inr (0, [.int 0, .int (-1), .int 0, .ref qs])), (qs, .inr (1, [.int 0, .ref es, .int 0]))]) hD hS hA [3, 2] rfl
  refine va_callFi (va_runF (As := []) (rest := []) (hK.1 0 _ rfl).2 ⟨hx, hb, hml, hown, hts⟩ (c_itr_hasNext l D it_1 qs es _) (z_cF 0 hE zw_1280 zw_1284 zw_1286 zw_115 zw_1288 rfl rfl rfl (hX.2.1.1) (by decide +kernel) ⟨(Nat.le_of_ble_eq_true rfl), (Nat.le_of_ble_eq_true rfl)⟩) ⟨hb_3, va_recv hK hP (ci := 0) (q0 := 3) rfl rfl, hc_3⟩ rfl rfl hl.1 rfl (lv_room (Nat.le_of_ble_eq_true rfl)) dX8_checksum_18 ⟨(Nat.le_of_ble_eq_true rfl), (Nat.le_of_ble_eq_true rfl)⟩) hS (fun q _ h => hF_3 q h) hF_3 (fun r_3 u_3 t_3 H1 locs ht_3 hvm_3 hw_3 hB_3 hz_3 hk_3 hS1 => ?_)
  obtain ⟨hP, hK, hD⟩ := z_back (wc := [(it_1, .inr (0, [.int 0, .int (-1), .int 0, .ref qs])), (qs, .inr (1, [.int 0, .ref es, .int 0]))]) (wr := [(m0, .inr (10, [.int 0, .ref qu, .ref qs, .ref qc, .ref qp, .int 0, .int (-1), .int 0, .null])), (qu, .inr (1, [.int 0, .ref eu, .int 0]))]) (w1 := [(it_1, .inr (0, [.int 0, .int (-1), .int 0, .ref qs])), (qs, .inr (1, [.int 0, .ref es, .int 0]))]) (tr := []) hP hK hD [3, 2] [0, 1] rfl rfl rfl (by decide) ht_3 hvm_3 hk_3 hF_3 [] rfl hB_3
  have hS := hS1
  have hP : va_P D vwCl [(m0, .inr (10, [.int 0, .ref qu, .ref qs, .ref qc, .ref qp, .int 0, .int (-1), .int 0, .null])), (qu, .inr (1, [.int 0, .ref eu, .int 0])), (it_1, .inr (0, [.int 0, .int (-1), .int 0, .ref qs])), (qs, .inr (1, [.int 0, .ref es, .int 0]))] H1 := hP
  have hD : va_D A [(m0, .inr (10, [.int 0, .ref qu, .ref qs, .ref qc, .ref qp, .int 0, .int (-1), .int 0, .null])), (qu, .inr (1, [.int 0, .ref eu, .int 0])), (it_1, .inr (0, [.int 0, .int (-1), .int 0, .ref qs])), (qs, .inr (1, [.int 0, .ref es, .int 0]))] := hD
  have hK : va_K D vwCl [] s := hK
  clear hS1
  obtain rfl : r_3 = 0 := hw_3
  refine lv_if_eq (tgt := 78) hx hb dX8_checksum_23 (by decide) (fun c_4 => ?_) (fun c_4 => absurd (by decide) c_4)
  refine lv_aload_n hx hb dX8_checksum_78 rfl (lv_at hl 2 rfl) ?_
  refine va_get (D := D) (ci := 10) (v := .ref qu) (C := RX8) (T := TX8) (N := 9) hx hb hts zin_X8 hown hK hP 0 rfl rfl 1 (by decide) (hts _ zw_1081) (fun _ h9 => h9) rfl dX8_checksum_79 ?_
  obtain ⟨hb_6, hc_6⟩ := z_call (wc := [(qu, .inr (1, [.int 0, .ref eu, .int 0]))]) (tc := []) ([.ref qu]) hP hK hD hS hA hE hX [1] rfl rfl [] rfl
  have hF_6 := va_free (wc := [(qu, .inr (1, [.int 0, .ref eu, .int 0]))]) hD hS hA [1] rfl
  refine va_callr (va_runV (As := []) (rest := []) ⟨hx, hb, hml, hown, hts⟩ (c_al_iterator l D qu eu _ ) (z_cV 0 hE zw_1256 zw_1257 zw_1258 zw_99 zw_1259 rfl rfl rfl (by decide +kernel) ⟨(Nat.le_of_ble_eq_true rfl), (Nat.le_of_ble_eq_true rfl)⟩) ⟨hb_6, va_recv hK hP (ci := 1) (q0 := 1) rfl rfl, hc_6⟩ rfl rfl hl.1 rfl (lv_room (Nat.le_of_ble_eq_true rfl)) dX8_checksum_82 ⟨(Nat.le_of_ble_eq_true rfl), (Nat.le_of_ble_eq_true rfl)⟩) hS (fun q _ h => hF_6 q h) hF_6 (fun u_6 it_5 t_6 H1 locs ht_6 hvm_6 hw_6 hB_6 hz_6 hk_6 hS1 => ?_)
  obtain ⟨hP, hK, hD⟩ := z_back (wc := [(qu, .inr (1, [.int 0, .ref eu, .int 0]))]) (wr := [(m0, .inr (10, [.int 0, .ref qu, .ref qs, .ref qc, .ref qp, .int 0, .int (-1), .int 0, .null])), (it_1, .inr (0, [.int 0, .int (-1), .int 0, .ref qs])), (qs, .inr (1, [.int 0, .ref es, .int 0]))]) (w1 := [(qu, .inr (1, [.int 0, .ref eu, .int 0])), (it_5, .inr (0, [.int 0, .int (-1), .int 0, .ref qu]))]) (tr := []) hP hK hD [1] [0, 2, 3] rfl rfl rfl (by decide) ht_6 hvm_6 hk_6 hF_6 [] rfl hB_6
  have hS := hS1
  have hP : va_P D vwCl [(m0, .inr (10, [.int 0, .ref qu, .ref qs, .ref qc, .ref qp, .int 0, .int (-1), .int 0, .null])), (it_1, .inr (0, [.int 0, .int (-1), .int 0, .ref qs])), (qs, .inr (1, [.int 0, .ref es, .int 0])), (qu, .inr (1, [.int 0, .ref eu, .int 0])), (it_5, .inr (0, [.int 0, .int (-1), .int 0, .ref qu]))] H1 := hP
  have hD : va_D A [(m0, .inr (10, [.int 0, .ref qu, .ref qs, .ref qc, .ref qp, .int 0, .int (-1), .int 0, .null])), (it_1, .inr (0, [.int 0, .int (-1), .int 0, .ref qs])), (qs, .inr (1, [.int 0, .ref es, .int 0])), (qu, .inr (1, [.int 0, .ref eu, .int 0])), (it_5, .inr (0, [.int 0, .int (-1), .int 0, .ref qu]))] := hD
  have hK : va_K D vwCl [] s := hK
  clear hS1
  refine lv_astore_n (lv' := [(3, .ref it_5), (1, .long 7), (0, .ref m0)]) hx hb dX8_checksum_85 rfl hl (by decide) rfl (fun ls hl => ?_)
  refine lv_aload_n hx hb dX8_checksum_86 rfl (lv_at hl 0 rfl) ?_
  obtain ⟨hb_7, hc_7⟩ := z_call (wc := [(it_5, .inr (0, [.int 0, .int (-1), .int 0, .ref qu])), (qu, .inr (1, [.int 0, .ref eu, .int 0]))]) (tc := []) ([.ref it_5]) hP hK hD hS hA hE hX [4, 3] rfl rfl [] rfl
  have hF_7 := va_free (wc := [(it_5, .inr (0, [.int 0, .int (-1), .int 0, .ref qu])), (qu, .inr (1, [.int 0, .ref eu, .int 0]))]) hD hS hA [4, 3] rfl
  refine va_callFi (va_runF (As := []) (rest := []) (hK.1 0 _ rfl).2 ⟨hx, hb, hml, hown, hts⟩ (c_itr_hasNext l D it_5 qu eu _) (z_cF 0 hE zw_1280 zw_1284 zw_1286 zw_115 zw_1288 rfl rfl rfl (hX.2.1.1) (by decide +kernel) ⟨(Nat.le_of_ble_eq_true rfl), (Nat.le_of_ble_eq_true rfl)⟩) ⟨hb_7, va_recv hK hP (ci := 0) (q0 := 4) rfl rfl, hc_7⟩ rfl rfl hl.1 rfl (lv_room (Nat.le_of_ble_eq_true rfl)) dX8_checksum_87 ⟨(Nat.le_of_ble_eq_true rfl), (Nat.le_of_ble_eq_true rfl)⟩) hS (fun q _ h => hF_7 q h) hF_7 (fun r_7 u_7 t_7 H1 locs ht_7 hvm_7 hw_7 hB_7 hz_7 hk_7 hS1 => ?_)
  obtain ⟨hP, hK, hD⟩ := z_back (wc := [(it_5, .inr (0, [.int 0, .int (-1), .int 0, .ref qu])), (qu, .inr (1, [.int 0, .ref eu, .int 0]))]) (wr := [(m0, .inr (10, [.int 0, .ref qu, .ref qs, .ref qc, .ref qp, .int 0, .int (-1), .int 0, .null])), (it_1, .inr (0, [.int 0, .int (-1), .int 0, .ref qs])), (qs, .inr (1, [.int 0, .ref es, .int 0]))]) (w1 := [(it_5, .inr (0, [.int 0, .int (-1), .int 0, .ref qu])), (qu, .inr (1, [.int 0, .ref eu, .int 0]))]) (tr := []) hP hK hD [4, 3] [0, 1, 2] rfl rfl rfl (by decide) ht_7 hvm_7 hk_7 hF_7 [] rfl hB_7
  have hS := hS1
  have hP : va_P D vwCl [(m0, .inr (10, [.int 0, .ref qu, .ref qs, .ref qc, .ref qp, .int 0, .int (-1), .int 0, .null])), (it_1, .inr (0, [.int 0, .int (-1), .int 0, .ref qs])), (qs, .inr (1, [.int 0, .ref es, .int 0])), (it_5, .inr (0, [.int 0, .int (-1), .int 0, .ref qu])), (qu, .inr (1, [.int 0, .ref eu, .int 0]))] H1 := hP
  have hD : va_D A [(m0, .inr (10, [.int 0, .ref qu, .ref qs, .ref qc, .ref qp, .int 0, .int (-1), .int 0, .null])), (it_1, .inr (0, [.int 0, .int (-1), .int 0, .ref qs])), (qs, .inr (1, [.int 0, .ref es, .int 0])), (it_5, .inr (0, [.int 0, .int (-1), .int 0, .ref qu])), (qu, .inr (1, [.int 0, .ref eu, .int 0]))] := hD
  have hK : va_K D vwCl [] s := hK
  clear hS1
  obtain rfl : r_7 = 0 := hw_7
  refine lv_if_eq (tgt := 122) hx hb dX8_checksum_92 (by decide) (fun c_8 => ?_) (fun c_8 => absurd (by decide) c_8)
  refine lv_ldc2 hx hb hown (hts _ zw_1736) dX8_checksum_122 ?_
  refine lv_lload_n hx hb dX8_checksum_125 rfl (lv_at hl 1 rfl) ?_
  refine lv_lmul hx hb dX8_checksum_126 ?_
  refine lv_topl (fun y_9 ey_9 => ?_)
  obtain rfl : y_9 = 217 := ey_9.trans (by first | rfl | decide)
  refine lv_aload_n hx hb dX8_checksum_127 rfl (lv_at hl 2 rfl) ?_
  refine va_get (D := D) (ci := 10) (v := .int 0) (C := RX8) (T := TX8) (N := 9) hx hb hts zin_X8 hown hK hP 0 rfl rfl 5 (by decide) (hts _ zw_1085) (fun _ h9 => h9) rfl dX8_checksum_128 ?_
  refine lv_i2l (v := 0) hx hb dX8_checksum_131 (by decide) ?_
  refine lv_ladd hx hb dX8_checksum_132 ?_
  refine lv_topl (fun y_10 ey_10 => ?_)
  obtain rfl : y_10 = 217 := ey_10.trans (by first | rfl | decide)
  exact W.lret (v := 217) hx hb hr (fun t ht hW => ⟨⟨217, (), rfl, rfl, z_end hP hK hD [0, 4, 2] rfl rfl [] rfl ht hW.alike⟩, hS.F ht⟩) hS.2.2 dX8_checksum_133
theorem dX8_openShare_0 : decode cX8_openShare 0 = .ok (.aload_n 0, 1) := by decide +kernel
theorem dX8_openShare_1 : decode cX8_openShare 1 = .ok (.aload_n 0, 1) := by decide +kernel
theorem dX8_openShare_2 : decode cX8_openShare 2 = .ok (.getfield 16, 3) := by decide +kernel
theorem dX8_openShare_5 : decode cX8_openShare 5 = .ok (.invokevirtual 49, 3) := by decide +kernel
theorem zw_1121 : Cond.methodLink RX8 49 yJx4a65c_isEmpty_aae02 ∈ z_Ts := z_m 1121 (by decide +kernel) (by decide +kernel)
theorem zw_1122 : Cond.instanceMethod yJx4a65c_isEmpty_aae02 ∈ z_Ts := z_m 1122 (by decide +kernel) (by decide +kernel)
theorem zw_1123 : Cond.selects RJx4a65c yJx4a65c_isEmpty_aae02 yJx4a65c_isEmpty_aae02 ∈ z_Ts := z_m 1123 (by decide +kernel) (by decide +kernel)
theorem zw_1124 : Cond.code yJx4a65c_isEmpty_aae02 cJx4a65c_isEmpty_aae02 1 (some .boolean) ∈ z_Ts := z_m 1124 (by decide +kernel) (by decide +kernel)
theorem dX8_openShare_8 : decode cX8_openShare 8 = .ok (.ifCond .eq 7, 3) := by decide +kernel
theorem dX8_openShare_11 : decode cX8_openShare 11 = .ok (.iconst 1, 1) := by decide +kernel
theorem dX8_openShare_12 : decode cX8_openShare 12 = .ok (.goto 4, 3) := by decide +kernel
theorem dX8_openShare_16 : decode cX8_openShare 16 = .ok (.putfield 30, 3) := by decide +kernel
theorem dX8_openShare_19 : decode cX8_openShare 19 = .ok (.iconst 0, 1) := by decide +kernel
theorem dX8_openShare_20 : decode cX8_openShare 20 = .ok (.istore_n 1, 1) := by decide +kernel
theorem dX8_openShare_21 : decode cX8_openShare 21 = .ok (.aload_n 0, 1) := by decide +kernel
theorem dX8_openShare_22 : decode cX8_openShare 22 = .ok (.getfield 16, 3) := by decide +kernel
theorem dX8_openShare_25 : decode cX8_openShare 25 = .ok (.invokevirtual 85, 3) := by decide +kernel
theorem dX8_openShare_28 : decode cX8_openShare 28 = .ok (.astore_n 2, 1) := by decide +kernel
theorem dX8_openShare_29 : decode cX8_openShare 29 = .ok (.aload_n 2, 1) := by decide +kernel
theorem dX8_openShare_30 : decode cX8_openShare 30 = .ok (.invokeinterface 89 1, 5) := by decide +kernel
theorem dX8_openShare_35 : decode cX8_openShare 35 = .ok (.ifCond .eq 33, 3) := by decide +kernel
theorem dX8_openShare_68 : decode cX8_openShare 68 = .ok (.aload_n 0, 1) := by decide +kernel
theorem dX8_openShare_69 : decode cX8_openShare 69 = .ok (.getfield 30, 3) := by decide +kernel
theorem dX8_openShare_72 : decode cX8_openShare 72 = .ok (.ifCond .le 7, 3) := by decide +kernel
theorem dX8_openShare_75 : decode cX8_openShare 75 = .ok (.fconst 0, 1) := by decide +kernel
theorem dX8_openShare_76 : decode cX8_openShare 76 = .ok (.goto 14, 3) := by decide +kernel
theorem dX8_openShare_90 : decode cX8_openShare 90 = .ok (.freturn, 1) := by decide +kernel
set_option maxHeartbeats 4000000 in
set_option maxRecDepth 100000 in
theorem g_X8_openShare (l : Launch) (D : va_G) (m0 : Nat) (qu : Nat) (qs : Nat) (qc : Nat) (qp : Nat) (th : Int32) (es : Nat) (sz : Nat)  : Met l yX8_openShare [Cond.code yX8_openShare cX8_openShare 4 (some .float)] ({ frames := 3, cells := 1, slots := 4, locals := 100 }) (z_Pc D [.ref m0] [(m0, .inr (10, [.int th, .ref qu, .ref qs, .ref qc, .ref qp, .int 0, .int (-1), .int 0, .null])), (qs, .inr (1, [.int 0, .ref es, .int 0]))] [] sz) (va_Qf (fun (r : UInt32) (_ : Unit) => True) (fun _ t => z_W D [(m0, .inr (10, [.int 1, .ref qu, .ref qs, .ref qc, .ref qp, .int 0, .int (-1), .int 0, .null])), (qs, .inr (1, [.int 0, .ref es, .int 0]))] [] (va_A [(m0, .inr (10, [.int th, .ref qu, .ref qs, .ref qc, .ref qp, .int 0, .int (-1), .int 0, .null])), (qs, .inr (1, [.int 0, .ref es, .int 0]))] sz) t) (va_A [(m0, .inr (10, [.int th, .ref qu, .ref qs, .ref qc, .ref qp, .int 0, .int (-1), .int 0, .null])), (qs, .inr (1, [.int 0, .ref es, .int 0]))] sz)) 1 4 (va_A [(m0, .inr (10, [.int th, .ref qu, .ref qs, .ref qc, .ref qp, .int 0, .int (-1), .int 0, .null])), (qs, .inr (1, [.int 0, .ref es, .int 0]))] sz) := by
  refine Met.ofW (cc := cX8_openShare) (maxL := 4) (ret := (some .float)) (by decide +kernel) rfl ?_
  intro p e s m args below meth c s₁ B hml hv
  obtain ⟨rfl, hsz, hP, hK, hD0, hE, hX0⟩ := hv
  have hx := B.exec
  have hb := B.bytes
  have hr := B.returns
  have hts := z_E.ts (args := [.ref m0].toArray) hE
  have hown : s.vm.findClass RX8 = some m.cls := findClass_of_methodNamed B.named
  have hlocks := B.notSynchronized
  subst hsz
  have hD := hD0.self (sz := s.heap.size)
  generalize hAe : va_A [(m0, .inr (10, [.int th, .ref qu, .ref qs, .ref qc, .ref qp, .int 0, .int (-1), .int 0, .null])), (qs, .inr (1, [.int 0, .ref es, .int 0]))] s.heap.size = A at hD hX0 ⊢
  have hX : z_X D A s s.heap := hX0
  have hA : ∀ q : Nat, s.heap.size ≤ q → A q := fun q h => by rw [← hAe]; exact Or.inr h
  have hS : va_S A s.heap s.heap [] := va_S.rf
  have hP : va_P D vwCl [(m0, .inr (10, [.int th, .ref qu, .ref qs, .ref qc, .ref qp, .int 0, .int (-1), .int 0, .null])), (qs, .inr (1, [.int 0, .ref es, .int 0]))] s.heap := hP
  have hl := lv_entry ([.ref m0]) (n := 4) (Nat.le_of_ble_eq_true rfl)
  rw [lg_entry_eq]
  generalize (lg_sl ([.ref m0]) ++ List.replicate (4 - (lg_sl ([.ref m0])).length) Slot.unset).toArray = ls at hl ⊢
  have hl : lv_has ls 4 [(0, .ref m0)] := hl
  skip
  refine lv_aload_n hx hb dX8_openShare_0 rfl (lv_at hl 0 rfl) ?_
  refine lv_aload_n hx hb dX8_openShare_1 rfl (lv_at hl 0 rfl) ?_
  refine va_get (D := D) (ci := 10) (v := .ref qs) (C := RX8) (T := TX8) (N := 9) hx hb hts zin_X8 hown hK hP 0 rfl rfl 2 (by decide) (hts _ zw_1082) (fun _ h9 => h9) rfl dX8_openShare_2 ?_
  obtain ⟨hb_1, hc_1⟩ := z_call (wc := [(qs, .inr (1, [.int 0, .ref es, .int 0]))]) (tc := []) ([.ref qs]) hP hK hD hS hA hE hX [1] rfl rfl [] rfl
  have hF_1 := va_free (wc := [(qs, .inr (1, [.int 0, .ref es, .int 0]))]) hD hS hA [1] rfl
  refine va_calli (va_runV (As := []) (rest := [.ref m0]) ⟨hx, hb, hml, hown, hts⟩ (c_al_isEmpty l D qs 0 es _ ) (z_cV 0 hE zw_1121 zw_1122 zw_1123 zw_99 zw_1124 rfl rfl rfl (by decide +kernel) ⟨(Nat.le_of_ble_eq_true rfl), (Nat.le_of_ble_eq_true rfl)⟩) ⟨hb_1, va_recv hK hP (ci := 1) (q0 := 1) rfl rfl, hc_1⟩ rfl rfl hl.1 rfl (lv_room (Nat.le_of_ble_eq_true rfl)) dX8_openShare_5 ⟨(Nat.le_of_ble_eq_true rfl), (Nat.le_of_ble_eq_true rfl)⟩) hS (fun q _ h => hF_1 q h) hF_1 (fun r_1 u_1 t_1 H1 locs ht_1 hvm_1 hw_1 hB_1 hz_1 hk_1 hS1 => ?_)
  obtain ⟨hP, hK, hD⟩ := z_back (wc := [(qs, .inr (1, [.int 0, .ref es, .int 0]))]) (wr := [(m0, .inr (10, [.int th, .ref qu, .ref qs, .ref qc, .ref qp, .int 0, .int (-1), .int 0, .null]))]) (w1 := [(qs, .inr (1, [.int 0, .ref es, .int 0]))]) (tr := []) hP hK hD [1] [0] rfl rfl rfl (by decide) ht_1 hvm_1 hk_1 hF_1 [] rfl hB_1
  have hS := hS1
  have hP : va_P D vwCl [(m0, .inr (10, [.int th, .ref qu, .ref qs, .ref qc, .ref qp, .int 0, .int (-1), .int 0, .null])), (qs, .inr (1, [.int 0, .ref es, .int 0]))] H1 := hP
  have hD : va_D A [(m0, .inr (10, [.int th, .ref qu, .ref qs, .ref qc, .ref qp, .int 0, .int (-1), .int 0, .null])), (qs, .inr (1, [.int 0, .ref es, .int 0]))] := hD
  have hK : va_K D vwCl [] s := hK
  clear hS1
  obtain rfl : r_1 = 1 := hw_1
  refine lv_if_eq (tgt := 15) hx hb dX8_openShare_8 (by decide) (fun c_2 => absurd c_2 (by decide)) (fun c_2 => ?_)
  refine lv_iconst (v := 1) hx hb dX8_openShare_11 (by decide) ?_
  refine lv_goto (tgt := 16) hx hb dX8_openShare_12 (by decide) ?_
  refine va_put (D := D) (ci := 10) (v := .int 1) (ty := .int) (C := RX8) (T := TX8) (N := 9) hx hb hts zin_X8 tyX8 tyX8_ok nmX8 hown hK hP hD hS 0 rfl rfl 0 (by decide) (hts _ zw_1080) (fun _ h9 => h9) rfl (by decide +kernel) rfl rfl (Nat.le_of_ble_eq_true rfl) dX8_openShare_16 (fun H locs hP hD hS => ?_)
  have hP : va_P D vwCl [(m0, .inr (10, [.int 1, .ref qu, .ref qs, .ref qc, .ref qp, .int 0, .int (-1), .int 0, .null])), (qs, .inr (1, [.int 0, .ref es, .int 0]))] H := hP
  have hD : va_D A [(m0, .inr (10, [.int 1, .ref qu, .ref qs, .ref qc, .ref qp, .int 0, .int (-1), .int 0, .null])), (qs, .inr (1, [.int 0, .ref es, .int 0]))] := hD
  refine lv_iconst (v := 0) hx hb dX8_openShare_19 (by decide) ?_
  refine lv_istore_n (lv' := [(1, .int 0), (0, .ref m0)]) hx hb dX8_openShare_20 rfl hl (by decide) rfl (fun ls hl => ?_)
  refine lv_aload_n hx hb dX8_openShare_21 rfl (lv_at hl 1 rfl) ?_
  refine va_get (D := D) (ci := 10) (v := .ref qs) (C := RX8) (T := TX8) (N := 9) hx hb hts zin_X8 hown hK hP 0 rfl rfl 2 (by decide) (hts _ zw_1082) (fun _ h9 => h9) rfl dX8_openShare_22 ?_
  obtain ⟨hb_4, hc_4⟩ := z_call (wc := [(qs, .inr (1, [.int 0, .ref es, .int 0]))]) (tc := []) ([.ref qs]) hP hK hD hS hA hE hX [1] rfl rfl [] rfl
  have hF_4 := va_free (wc := [(qs, .inr (1, [.int 0, .ref es, .int 0]))]) hD hS hA [1] rfl
  refine va_callr (va_runV (As := []) (rest := []) ⟨hx, hb, hml, hown, hts⟩ (c_al_iterator l D qs es _ ) (z_cV 0 hE zw_1256 zw_1257 zw_1258 zw_99 zw_1259 rfl rfl rfl (by decide +kernel) ⟨(Nat.le_of_ble_eq_true rfl), (Nat.le_of_ble_eq_true rfl)⟩) ⟨hb_4, va_recv hK hP (ci := 1) (q0 := 1) rfl rfl, hc_4⟩ rfl rfl hl.1 rfl (lv_room (Nat.le_of_ble_eq_true rfl)) dX8_openShare_25 ⟨(Nat.le_of_ble_eq_true rfl), (Nat.le_of_ble_eq_true rfl)⟩) hS (fun q _ h => hF_4 q h) hF_4 (fun u_4 it_3 t_4 H1 locs ht_4 hvm_4 hw_4 hB_4 hz_4 hk_4 hS1 => ?_)
  obtain ⟨hP, hK, hD⟩ := z_back (wc := [(qs, .inr (1, [.int 0, .ref es, .int 0]))]) (wr := [(m0, .inr (10, [.int 1, .ref qu, .ref qs, .ref qc, .ref qp, .int 0, .int (-1), .int 0, .null]))]) (w1 := [(qs, .inr (1, [.int 0, .ref es, .int 0])), (it_3, .inr (0, [.int 0, .int (-1), .int 0, .ref qs]))]) (tr := []) hP hK hD [1] [0] rfl rfl rfl (by decide) ht_4 hvm_4 hk_4 hF_4 [] rfl hB_4
  have hS := hS1
  have hP : va_P D vwCl [(m0, .inr (10, [.int 1, .ref qu, .ref qs, .ref qc, .ref qp, .int 0, .int (-1), .int 0, .null])), (qs, .inr (1, [.int 0, .ref es, .int 0])), (it_3, .inr (0, [.int 0, .int (-1), .int 0, .ref qs]))] H1 := hP
  have hD : va_D A [(m0, .inr (10, [.int 1, .ref qu, .ref qs, .ref qc, .ref qp, .int 0, .int (-1), .int 0, .null])), (qs, .inr (1, [.int 0, .ref es, .int 0])), (it_3, .inr (0, [.int 0, .int (-1), .int 0, .ref qs]))] := hD
  have hK : va_K D vwCl [] s := hK
  clear hS1
  refine lv_astore_n (lv' := [(2, .ref it_3), (1, .int 0), (0, .ref m0)]) hx hb dX8_openShare_28 rfl hl (by decide) rfl (fun ls hl => ?_)
  refine lv_aload_n hx hb dX8_openShare_29 rfl (lv_at hl 0 rfl) ?_
  obtain ⟨hb_5, hc_5⟩ := z_call (wc := [(it_3, .inr (0, [.int 0, .int (-1), .int 0, .ref qs])), (qs, .inr (1, [.int 0, .ref es, .int 0]))]) (tc := []) ([.ref it_3]) hP hK hD hS hA hE hX [2, 1] rfl rfl [] rfl
  have hF_5 := va_free (wc := [(it_3, .inr (0, [.int 0, .int (-1), .int 0, .ref qs])), (qs, .inr (1, [.int 0, .ref es, .int 0]))]) hD hS hA [2, 1] rfl
  refine va_callFi (va_runF (As := []) (rest := []) (hK.1 0 _ rfl).2 ⟨hx, hb, hml, hown, hts⟩ (c_itr_hasNext l D it_3 qs es _) (z_cF 0 hE zw_1280 zw_1284 zw_1286 zw_115 zw_1288 rfl rfl rfl (hX.2.1.1) (by decide +kernel) ⟨(Nat.le_of_ble_eq_true rfl), (Nat.le_of_ble_eq_true rfl)⟩) ⟨hb_5, va_recv hK hP (ci := 0) (q0 := 2) rfl rfl, hc_5⟩ rfl rfl hl.1 rfl (lv_room (Nat.le_of_ble_eq_true rfl)) dX8_openShare_30 ⟨(Nat.le_of_ble_eq_true rfl), (Nat.le_of_ble_eq_true rfl)⟩) hS (fun q _ h => hF_5 q h) hF_5 (fun r_5 u_5 t_5 H1 locs ht_5 hvm_5 hw_5 hB_5 hz_5 hk_5 hS1 => ?_)
  obtain ⟨hP, hK, hD⟩ := z_back (wc := [(it_3, .inr (0, [.int 0, .int (-1), .int 0, .ref qs])), (qs, .inr (1, [.int 0, .ref es, .int 0]))]) (wr := [(m0, .inr (10, [.int 1, .ref qu, .ref qs, .ref qc, .ref qp, .int 0, .int (-1), .int 0, .null]))]) (w1 := [(it_3, .inr (0, [.int 0, .int (-1), .int 0, .ref qs])), (qs, .inr (1, [.int 0, .ref es, .int 0]))]) (tr := []) hP hK hD [2, 1] [0] rfl rfl rfl (by decide) ht_5 hvm_5 hk_5 hF_5 [] rfl hB_5
  have hS := hS1
  have hP : va_P D vwCl [(m0, .inr (10, [.int 1, .ref qu, .ref qs, .ref qc, .ref qp, .int 0, .int (-1), .int 0, .null])), (it_3, .inr (0, [.int 0, .int (-1), .int 0, .ref qs])), (qs, .inr (1, [.int 0, .ref es, .int 0]))] H1 := hP
  have hD : va_D A [(m0, .inr (10, [.int 1, .ref qu, .ref qs, .ref qc, .ref qp, .int 0, .int (-1), .int 0, .null])), (it_3, .inr (0, [.int 0, .int (-1), .int 0, .ref qs])), (qs, .inr (1, [.int 0, .ref es, .int 0]))] := hD
  have hK : va_K D vwCl [] s := hK
  clear hS1
  obtain rfl : r_5 = 0 := hw_5
  refine lv_if_eq (tgt := 68) hx hb dX8_openShare_35 (by decide) (fun c_6 => ?_) (fun c_6 => absurd (by decide) c_6)
  refine lv_aload_n hx hb dX8_openShare_68 rfl (lv_at hl 2 rfl) ?_
  refine va_get (D := D) (ci := 10) (v := .int 1) (C := RX8) (T := TX8) (N := 9) hx hb hts zin_X8 hown hK hP 0 rfl rfl 0 (by decide) (hts _ zw_1080) (fun _ h9 => h9) rfl dX8_openShare_69 ?_
  refine lv_if_le (tgt := 79) hx hb dX8_openShare_72 (by decide) (fun c_7 => absurd c_7 (by decide)) (fun c_7 => ?_)
  refine lv_fconst0 hx hb dX8_openShare_75 ?_
  refine lv_goto (tgt := 90) hx hb dX8_openShare_76 (by decide) ?_
  exact W.fret (v := FP.fconst0) hx hb hr (fun t ht hW => ⟨⟨FP.fconst0, (), rfl, trivial, z_end hP hK hD [0, 2] rfl rfl [] rfl ht hW.alike⟩, hS.F ht⟩) hS.2.2 dX8_openShare_90
theorem dX8_meanTaken_0 : decode cX8_meanTaken 0 = .ok (.aload_n 0, 1) := by decide +kernel
theorem dX8_meanTaken_1 : decode cX8_meanTaken 1 = .ok (.aload_n 0, 1) := by decide +kernel
theorem dX8_meanTaken_2 : decode cX8_meanTaken 2 = .ok (.getfield 16, 3) := by decide +kernel
theorem dX8_meanTaken_5 : decode cX8_meanTaken 5 = .ok (.invokevirtual 49, 3) := by decide +kernel
theorem dX8_meanTaken_8 : decode cX8_meanTaken 8 = .ok (.ifCond .eq 7, 3) := by decide +kernel
theorem dX8_meanTaken_11 : decode cX8_meanTaken 11 = .ok (.iconst 1, 1) := by decide +kernel
theorem dX8_meanTaken_12 : decode cX8_meanTaken 12 = .ok (.goto 4, 3) := by decide +kernel
theorem dX8_meanTaken_16 : decode cX8_meanTaken 16 = .ok (.putfield 30, 3) := by decide +kernel
theorem dX8_meanTaken_19 : decode cX8_meanTaken 19 = .ok (.lconst 0, 1) := by decide +kernel
theorem dX8_meanTaken_20 : decode cX8_meanTaken 20 = .ok (.lstore_n 1, 1) := by decide +kernel
theorem dX8_meanTaken_21 : decode cX8_meanTaken 21 = .ok (.aload_n 0, 1) := by decide +kernel
theorem dX8_meanTaken_22 : decode cX8_meanTaken 22 = .ok (.getfield 16, 3) := by decide +kernel
theorem dX8_meanTaken_25 : decode cX8_meanTaken 25 = .ok (.invokevirtual 85, 3) := by decide +kernel
theorem dX8_meanTaken_28 : decode cX8_meanTaken 28 = .ok (.astore_n 3, 1) := by decide +kernel
theorem dX8_meanTaken_29 : decode cX8_meanTaken 29 = .ok (.aload_n 3, 1) := by decide +kernel
theorem dX8_meanTaken_30 : decode cX8_meanTaken 30 = .ok (.invokeinterface 89 1, 5) := by decide +kernel
theorem dX8_meanTaken_35 : decode cX8_meanTaken 35 = .ok (.ifCond .eq 25, 3) := by decide +kernel
theorem dX8_meanTaken_60 : decode cX8_meanTaken 60 = .ok (.aload_n 0, 1) := by decide +kernel
theorem dX8_meanTaken_61 : decode cX8_meanTaken 61 = .ok (.getfield 30, 3) := by decide +kernel
theorem dX8_meanTaken_64 : decode cX8_meanTaken 64 = .ok (.ifCond .le 7, 3) := by decide +kernel
theorem dX8_meanTaken_67 : decode cX8_meanTaken 67 = .ok (.dconst 0, 1) := by decide +kernel
theorem dX8_meanTaken_68 : decode cX8_meanTaken 68 = .ok (.goto 14, 3) := by decide +kernel
theorem dX8_meanTaken_82 : decode cX8_meanTaken 82 = .ok (.dreturn, 1) := by decide +kernel
set_option maxHeartbeats 4000000 in
set_option maxRecDepth 100000 in
theorem g_X8_meanTaken (l : Launch) (D : va_G) (m0 : Nat) (qu : Nat) (qs : Nat) (qc : Nat) (qp : Nat) (th : Int32) (es : Nat) (sz : Nat)  : Met l yX8_meanTaken [Cond.code yX8_meanTaken cX8_meanTaken 5 (some .double)] ({ frames := 3, cells := 1, slots := 4, locals := 100 }) (z_Pc D [.ref m0] [(m0, .inr (10, [.int th, .ref qu, .ref qs, .ref qc, .ref qp, .int 0, .int (-1), .int 0, .null])), (qs, .inr (1, [.int 0, .ref es, .int 0]))] [] sz) (va_Qd (fun (r : UInt64) (_ : Unit) => True) (fun _ t => z_W D [(m0, .inr (10, [.int 1, .ref qu, .ref qs, .ref qc, .ref qp, .int 0, .int (-1), .int 0, .null])), (qs, .inr (1, [.int 0, .ref es, .int 0]))] [] (va_A [(m0, .inr (10, [.int th, .ref qu, .ref qs, .ref qc, .ref qp, .int 0, .int (-1), .int 0, .null])), (qs, .inr (1, [.int 0, .ref es, .int 0]))] sz) t) (va_A [(m0, .inr (10, [.int th, .ref qu, .ref qs, .ref qc, .ref qp, .int 0, .int (-1), .int 0, .null])), (qs, .inr (1, [.int 0, .ref es, .int 0]))] sz)) 1 4 (va_A [(m0, .inr (10, [.int th, .ref qu, .ref qs, .ref qc, .ref qp, .int 0, .int (-1), .int 0, .null])), (qs, .inr (1, [.int 0, .ref es, .int 0]))] sz) := by
  refine Met.ofW (cc := cX8_meanTaken) (maxL := 5) (ret := (some .double)) (by decide +kernel) rfl ?_
  intro p e s m args below meth c s₁ B hml hv
  obtain ⟨rfl, hsz, hP, hK, hD0, hE, hX0⟩ := hv
  have hx := B.exec
  have hb := B.bytes
  have hr := B.returns
  have hts := z_E.ts (args := [.ref m0].toArray) hE
  have hown : s.vm.findClass RX8 = some m.cls := findClass_of_methodNamed B.named
  have hlocks := B.notSynchronized
  subst hsz
  have hD := hD0.self (sz := s.heap.size)
  generalize hAe : va_A [(m0, .inr (10, [.int th, .ref qu, .ref qs, .ref qc, .ref qp, .int 0, .int (-1), .int 0, .null])), (qs, .inr (1, [.int 0, .ref es, .int 0]))] s.heap.size = A at hD hX0 ⊢
  have hX : z_X D A s s.heap := hX0
  have hA : ∀ q : Nat, s.heap.size ≤ q → A q := fun q h => by rw [← hAe]; exact Or.inr h
  have hS : va_S A s.heap s.heap [] := va_S.rf
  have hP : va_P D vwCl [(m0, .inr (10, [.int th, .ref qu, .ref qs, .ref qc, .ref qp, .int 0, .int (-1), .int 0, .null])), (qs, .inr (1, [.int 0, .ref es, .int 0]))] s.heap := hP
  have hl := lv_entry ([.ref m0]) (n := 5) (Nat.le_of_ble_eq_true rfl)
  rw [lg_entry_eq]
  generalize (lg_sl ([.ref m0]) ++ List.replicate (5 - (lg_sl ([.ref m0])).length) Slot.unset).toArray = ls at hl ⊢
  have hl : lv_has ls 5 [(0, .ref m0)] := hl
  skip
  refine lv_aload_n hx hb dX8_meanTaken_0 rfl (lv_at hl 0 rfl) ?_
  refine lv_aload_n hx hb dX8_meanTaken_1 rfl (lv_at hl 0 rfl) ?_
  refine va_get (D := D) (ci := 10) (v := .ref qs) (C := RX8) (T := TX8) (N := 9) hx hb hts zin_X8 hown hK hP 0 rfl rfl 2 (by decide) (hts _ zw_1082) (fun _ h9 => h9) rfl dX8_meanTaken_2 ?_
  obtain ⟨hb_1, hc_1⟩ := z_call (wc := [(qs, .inr (1, [.int 0, .ref es, .int 0]))]) (tc := []) ([.ref qs]) hP hK hD hS hA hE hX [1] rfl rfl [] rfl
  have hF_1 := va_free (wc := [(qs, .inr (1, [.int 0, .ref es, .int 0]))]) hD hS hA [1] rfl
  refine va_calli (va_runV (As := []) (rest := [.ref m0]) ⟨hx, hb, hml, hown, hts⟩ (c_al_isEmpty l D qs 0 es _ ) (z_cV 0 hE zw_1121 zw_1122 zw_1123 zw_99 zw_1124 rfl rfl rfl (by decide +kernel) ⟨(Nat.le_of_ble_eq_true rfl), (Nat.le_of_ble_eq_true rfl)⟩) ⟨hb_1, va_recv hK hP (ci := 1) (q0 := 1) rfl rfl, hc_1⟩ rfl rfl hl.1 rfl (lv_room (Nat.le_of_ble_eq_true rfl)) dX8_meanTaken_5 ⟨(Nat.le_of_ble_eq_true rfl), (Nat.le_of_ble_eq_true rfl)⟩) hS (fun q _ h => hF_1 q h) hF_1 (fun r_1 u_1 t_1 H1 locs ht_1 hvm_1 hw_1 hB_1 hz_1 hk_1 hS1 => ?_)
  obtain ⟨hP, hK, hD⟩ := z_back (wc := [(qs, .inr (1, [.int 0, .ref es, .int 0]))]) (wr := [(m0, .inr (10, [.int th, .ref qu, .ref qs, .ref qc, .ref qp, .int 0, .int (-1), .int 0, .null]))]) (w1 := [(qs, .inr (1, [.int 0, .ref es, .int 0]))]) (tr := []) hP hK hD [1] [0] rfl rfl rfl (by decide) ht_1 hvm_1 hk_1 hF_1 [] rfl hB_1
  have hS := hS1
  have hP : va_P D vwCl [(m0, .inr (10, [.int th, .ref qu, .ref qs, .ref qc, .ref qp, .int 0, .int (-1), .int 0, .null])), (qs, .inr (1, [.int 0, .ref es, .int 0]))] H1 := hP
  have hD : va_D A [(m0, .inr (10, [.int th, .ref qu, .ref qs, .ref qc, .ref qp, .int 0, .int (-1), .int 0, .null])), (qs, .inr (1, [.int 0, .ref es, .int 0]))] := hD
  have hK : va_K D vwCl [] s := hK
  clear hS1
  obtain rfl : r_1 = 1 := hw_1
  refine lv_if_eq (tgt := 15) hx hb dX8_meanTaken_8 (by decide) (fun c_2 => absurd c_2 (by decide)) (fun c_2 => ?_)
  refine lv_iconst (v := 1) hx hb dX8_meanTaken_11 (by decide) ?_
  refine lv_goto (tgt := 16) hx hb dX8_meanTaken_12 (by decide) ?_
  refine va_put (D := D) (ci := 10) (v := .int 1) (ty := .int) (C := RX8) (T := TX8) (N := 9) hx hb hts zin_X8 tyX8 tyX8_ok nmX8 hown hK hP hD hS 0 rfl rfl 0 (by decide) (hts _ zw_1080) (fun _ h9 => h9) rfl (by decide +kernel) rfl rfl (Nat.le_of_ble_eq_true rfl) dX8_meanTaken_16 (fun H locs hP hD hS => ?_)
  have hP : va_P D vwCl [(m0, .inr (10, [.int 1, .ref qu, .ref qs, .ref qc, .ref qp, .int 0, .int (-1), .int 0, .null])), (qs, .inr (1, [.int 0, .ref es, .int 0]))] H := hP
  have hD : va_D A [(m0, .inr (10, [.int 1, .ref qu, .ref qs, .ref qc, .ref qp, .int 0, .int (-1), .int 0, .null])), (qs, .inr (1, [.int 0, .ref es, .int 0]))] := hD
  refine lv_lconst (v := 0) hx hb dX8_meanTaken_19 (by decide) ?_
  refine lv_lstore_n (lv' := [(1, .long 0), (0, .ref m0)]) hx hb dX8_meanTaken_20 rfl hl (by decide) rfl (fun ls hl => ?_)
  refine lv_aload_n hx hb dX8_meanTaken_21 rfl (lv_at hl 1 rfl) ?_
  refine va_get (D := D) (ci := 10) (v := .ref qs) (C := RX8) (T := TX8) (N := 9) hx hb hts zin_X8 hown hK hP 0 rfl rfl 2 (by decide) (hts _ zw_1082) (fun _ h9 => h9) rfl dX8_meanTaken_22 ?_
  obtain ⟨hb_4, hc_4⟩ := z_call (wc := [(qs, .inr (1, [.int 0, .ref es, .int 0]))]) (tc := []) ([.ref qs]) hP hK hD hS hA hE hX [1] rfl rfl [] rfl
  have hF_4 := va_free (wc := [(qs, .inr (1, [.int 0, .ref es, .int 0]))]) hD hS hA [1] rfl
  refine va_callr (va_runV (As := []) (rest := []) ⟨hx, hb, hml, hown, hts⟩ (c_al_iterator l D qs es _ ) (z_cV 0 hE zw_1256 zw_1257 zw_1258 zw_99 zw_1259 rfl rfl rfl (by decide +kernel) ⟨(Nat.le_of_ble_eq_true rfl), (Nat.le_of_ble_eq_true rfl)⟩) ⟨hb_4, va_recv hK hP (ci := 1) (q0 := 1) rfl rfl, hc_4⟩ rfl rfl hl.1 rfl (lv_room (Nat.le_of_ble_eq_true rfl)) dX8_meanTaken_25 ⟨(Nat.le_of_ble_eq_true rfl), (Nat.le_of_ble_eq_true rfl)⟩) hS (fun q _ h => hF_4 q h) hF_4 (fun u_4 it_3 t_4 H1 locs ht_4 hvm_4 hw_4 hB_4 hz_4 hk_4 hS1 => ?_)
  obtain ⟨hP, hK, hD⟩ := z_back (wc := [(qs, .inr (1, [.int 0, .ref es, .int 0]))]) (wr := [(m0, .inr (10, [.int 1, .ref qu, .ref qs, .ref qc, .ref qp, .int 0, .int (-1), .int 0, .null]))]) (w1 := [(qs, .inr (1, [.int 0, .ref es, .int 0])), (it_3, .inr (0, [.int 0, .int (-1), .int 0, .ref qs]))]) (tr := []) hP hK hD [1] [0] rfl rfl rfl (by decide) ht_4 hvm_4 hk_4 hF_4 [] rfl hB_4
  have hS := hS1
  have hP : va_P D vwCl [(m0, .inr (10, [.int 1, .ref qu, .ref qs, .ref qc, .ref qp, .int 0, .int (-1), .int 0, .null])), (qs, .inr (1, [.int 0, .ref es, .int 0])), (it_3, .inr (0, [.int 0, .int (-1), .int 0, .ref qs]))] H1 := hP
  have hD : va_D A [(m0, .inr (10, [.int 1, .ref qu, .ref qs, .ref qc, .ref qp, .int 0, .int (-1), .int 0, .null])), (qs, .inr (1, [.int 0, .ref es, .int 0])), (it_3, .inr (0, [.int 0, .int (-1), .int 0, .ref qs]))] := hD
  have hK : va_K D vwCl [] s := hK
  clear hS1
  refine lv_astore_n (lv' := [(3, .ref it_3), (1, .long 0), (0, .ref m0)]) hx hb dX8_meanTaken_28 rfl hl (by decide) rfl (fun ls hl => ?_)
  refine lv_aload_n hx hb dX8_meanTaken_29 rfl (lv_at hl 0 rfl) ?_
  obtain ⟨hb_5, hc_5⟩ := z_call (wc := [(it_3, .inr (0, [.int 0, .int (-1), .int 0, .ref qs])), (qs, .inr (1, [.int 0, .ref es, .int 0]))]) (tc := []) ([.ref it_3]) hP hK hD hS hA hE hX [2, 1] rfl rfl [] rfl
  have hF_5 := va_free (wc := [(it_3, .inr (0, [.int 0, .int (-1), .int 0, .ref qs])), (qs, .inr (1, [.int 0, .ref es, .int 0]))]) hD hS hA [2, 1] rfl
  refine va_callFi (va_runF (As := []) (rest := []) (hK.1 0 _ rfl).2 ⟨hx, hb, hml, hown, hts⟩ (c_itr_hasNext l D it_3 qs es _) (z_cF 0 hE zw_1280 zw_1284 zw_1286 zw_115 zw_1288 rfl rfl rfl (hX.2.1.1) (by decide +kernel) ⟨(Nat.le_of_ble_eq_true rfl), (Nat.le_of_ble_eq_true rfl)⟩) ⟨hb_5, va_recv hK hP (ci := 0) (q0 := 2) rfl rfl, hc_5⟩ rfl rfl hl.1 rfl (lv_room (Nat.le_of_ble_eq_true rfl)) dX8_meanTaken_30 ⟨(Nat.le_of_ble_eq_true rfl), (Nat.le_of_ble_eq_true rfl)⟩) hS (fun q _ h => hF_5 q h) hF_5 (fun r_5 u_5 t_5 H1 locs ht_5 hvm_5 hw_5 hB_5 hz_5 hk_5 hS1 => ?_)
  obtain ⟨hP, hK, hD⟩ := z_back (wc := [(it_3, .inr (0, [.int 0, .int (-1), .int 0, .ref qs])), (qs, .inr (1, [.int 0, .ref es, .int 0]))]) (wr := [(m0, .inr (10, [.int 1, .ref qu, .ref qs, .ref qc, .ref qp, .int 0, .int (-1), .int 0, .null]))]) (w1 := [(it_3, .inr (0, [.int 0, .int (-1), .int 0, .ref qs])), (qs, .inr (1, [.int 0, .ref es, .int 0]))]) (tr := []) hP hK hD [2, 1] [0] rfl rfl rfl (by decide) ht_5 hvm_5 hk_5 hF_5 [] rfl hB_5
  have hS := hS1
  have hP : va_P D vwCl [(m0, .inr (10, [.int 1, .ref qu, .ref qs, .ref qc, .ref qp, .int 0, .int (-1), .int 0, .null])), (it_3, .inr (0, [.int 0, .int (-1), .int 0, .ref qs])), (qs, .inr (1, [.int 0, .ref es, .int 0]))] H1 := hP
  have hD : va_D A [(m0, .inr (10, [.int 1, .ref qu, .ref qs, .ref qc, .ref qp, .int 0, .int (-1), .int 0, .null])), (it_3, .inr (0, [.int 0, .int (-1), .int 0, .ref qs])), (qs, .inr (1, [.int 0, .ref es, .int 0]))] := hD
  have hK : va_K D vwCl [] s := hK
  clear hS1
  obtain rfl : r_5 = 0 := hw_5
  refine lv_if_eq (tgt := 60) hx hb dX8_meanTaken_35 (by decide) (fun c_6 => ?_) (fun c_6 => absurd (by decide) c_6)
  refine lv_aload_n hx hb dX8_meanTaken_60 rfl (lv_at hl 2 rfl) ?_
  refine va_get (D := D) (ci := 10) (v := .int 1) (C := RX8) (T := TX8) (N := 9) hx hb hts zin_X8 hown hK hP 0 rfl rfl 0 (by decide) (hts _ zw_1080) (fun _ h9 => h9) rfl dX8_meanTaken_61 ?_
  refine lv_if_le (tgt := 71) hx hb dX8_meanTaken_64 (by decide) (fun c_7 => absurd c_7 (by decide)) (fun c_7 => ?_)
  refine lv_dconst0 hx hb dX8_meanTaken_67 ?_
  refine lv_goto (tgt := 82) hx hb dX8_meanTaken_68 (by decide) ?_
  exact W.dret (v := FP.dconst0) hx hb hr (fun t ht hW => ⟨⟨FP.dconst0, (), rfl, trivial, z_end hP hK hD [0, 2] rfl rfl [] rfl ht hW.alike⟩, hS.F ht⟩) hS.2.2 dX8_meanTaken_82
theorem dX8_noProgramme_0 : decode cX8_noProgramme 0 = .ok (.iconst 0, 1) := by decide +kernel
theorem dX8_noProgramme_1 : decode cX8_noProgramme 1 = .ok (.istore_n 1, 1) := by decide +kernel
theorem dX8_noProgramme_2 : decode cX8_noProgramme 2 = .ok (.aload_n 0, 1) := by decide +kernel
theorem dX8_noProgramme_3 : decode cX8_noProgramme 3 = .ok (.getfield 10, 3) := by decide +kernel
theorem dX8_noProgramme_6 : decode cX8_noProgramme 6 = .ok (.invokevirtual 85, 3) := by decide +kernel
theorem dX8_noProgramme_9 : decode cX8_noProgramme 9 = .ok (.astore_n 2, 1) := by decide +kernel
theorem dX8_noProgramme_10 : decode cX8_noProgramme 10 = .ok (.aload_n 2, 1) := by decide +kernel
theorem dX8_noProgramme_11 : decode cX8_noProgramme 11 = .ok (.invokeinterface 89 1, 5) := by decide +kernel
theorem dX8_noProgramme_16 : decode cX8_noProgramme 16 = .ok (.ifCond .eq 33, 3) := by decide +kernel
theorem dX8_noProgramme_49 : decode cX8_noProgramme 49 = .ok (.iload_n 1, 1) := by decide +kernel
theorem dX8_noProgramme_50 : decode cX8_noProgramme 50 = .ok (.iconst 5, 1) := by decide +kernel
theorem dX8_noProgramme_51 : decode cX8_noProgramme 51 = .ok (.if_icmp .le 7, 3) := by decide +kernel
theorem dX8_noProgramme_58 : decode cX8_noProgramme 58 = .ok (.iconst 0, 1) := by decide +kernel
theorem dX8_noProgramme_59 : decode cX8_noProgramme 59 = .ok (.ireturn, 1) := by decide +kernel
set_option maxHeartbeats 4000000 in
set_option maxRecDepth 100000 in
theorem g_X8_noProgramme (l : Launch) (D : va_G) (m0 : Nat) (qu : Nat) (qs : Nat) (qc : Nat) (qp : Nat) (th : Int32) (eu : Nat) (sz : Nat)  : Met l yX8_noProgramme [Cond.code yX8_noProgramme cX8_noProgramme 4 (some .boolean)] ({ frames := 3, cells := 1, slots := 4, locals := 100 }) (z_Pc D [.ref m0] [(m0, .inr (10, [.int th, .ref qu, .ref qs, .ref qc, .ref qp, .int 0, .int (-1), .int 0, .null])), (qu, .inr (1, [.int 0, .ref eu, .int 0]))] [] sz) (va_Qi (fun (r : Int32) (_ : Unit) => r = 0) (fun _ t => z_W D [(m0, .inr (10, [.int th, .ref qu, .ref qs, .ref qc, .ref qp, .int 0, .int (-1), .int 0, .null])), (qu, .inr (1, [.int 0, .ref eu, .int 0]))] [] (va_A [(m0, .inr (10, [.int th, .ref qu, .ref qs, .ref qc, .ref qp, .int 0, .int (-1), .int 0, .null])), (qu, .inr (1, [.int 0, .ref eu, .int 0]))] sz) t) (va_A [(m0, .inr (10, [.int th, .ref qu, .ref qs, .ref qc, .ref qp, .int 0, .int (-1), .int 0, .null])), (qu, .inr (1, [.int 0, .ref eu, .int 0]))] sz)) 1 4 (va_A [(m0, .inr (10, [.int th, .ref qu, .ref qs, .ref qc, .ref qp, .int 0, .int (-1), .int 0, .null])), (qu, .inr (1, [.int 0, .ref eu, .int 0]))] sz) := by
  refine Met.ofW (cc := cX8_noProgramme) (maxL := 4) (ret := (some .boolean)) (by decide +kernel) rfl ?_
  intro p e s m args below meth c s₁ B hml hv
  obtain ⟨rfl, hsz, hP, hK, hD0, hE, hX0⟩ := hv
  have hx := B.exec
  have hb := B.bytes
  have hr := B.returns
  have hts := z_E.ts (args := [.ref m0].toArray) hE
  have hown : s.vm.findClass RX8 = some m.cls := findClass_of_methodNamed B.named
  have hlocks := B.notSynchronized
  subst hsz
  have hD := hD0.self (sz := s.heap.size)
  generalize hAe : va_A [(m0, .inr (10, [.int th, .ref qu, .ref qs, .ref qc, .ref qp, .int 0, .int (-1), .int 0, .null])), (qu, .inr (1, [.int 0, .ref eu, .int 0]))] s.heap.size = A at hD hX0 ⊢
  have hX : z_X D A s s.heap := hX0
  have hA : ∀ q : Nat, s.heap.size ≤ q → A q := fun q h => by rw [← hAe]; exact Or.inr h
  have hS : va_S A s.heap s.heap [] := va_S.rf
  have hP : va_P D vwCl [(m0, .inr (10, [.int th, .ref qu, .ref qs, .ref qc, .ref qp, .int 0, .int (-1), .int 0, .null])), (qu, .inr (1, [.int 0, .ref eu, .int 0]))] s.heap := hP
  have hl := lv_entry ([.ref m0]) (n := 4) (Nat.le_of_ble_eq_true rfl)
  rw [lg_entry_eq]
  generalize (lg_sl ([.ref m0]) ++ List.replicate (4 - (lg_sl ([.ref m0])).length) Slot.unset).toArray = ls at hl ⊢
  have hl : lv_has ls 4 [(0, .ref m0)] := hl
  skip
  refine lv_iconst (v := 0) hx hb dX8_noProgramme_0 (by decide) ?_
  refine lv_istore_n (lv' := [(1, .int 0), (0, .ref m0)]) hx hb dX8_noProgramme_1 rfl hl (by decide) rfl (fun ls hl => ?_)
  refine lv_aload_n hx hb dX8_noProgramme_2 rfl (lv_at hl 1 rfl) ?_
  refine va_get (D := D) (ci := 10) (v := .ref qu) (C := RX8) (T := TX8) (N := 9) hx hb hts zin_X8 hown hK hP 0 rfl rfl 1 (by decide) (hts _ zw_1081) (fun _ h9 => h9) rfl dX8_noProgramme_3 ?_
  obtain ⟨hb_2, hc_2⟩ := z_call (wc := [(qu, .inr (1, [.int 0, .ref eu, .int 0]))]) (tc := []) ([.ref qu]) hP hK hD hS hA hE hX [1] rfl rfl [] rfl
  have hF_2 := va_free (wc := [(qu, .inr (1, [.int 0, .ref eu, .int 0]))]) hD hS hA [1] rfl
  refine va_callr (va_runV (As := []) (rest := []) ⟨hx, hb, hml, hown, hts⟩ (c_al_iterator l D qu eu _ ) (z_cV 0 hE zw_1256 zw_1257 zw_1258 zw_99 zw_1259 rfl rfl rfl (by decide +kernel) ⟨(Nat.le_of_ble_eq_true rfl), (Nat.le_of_ble_eq_true rfl)⟩) ⟨hb_2, va_recv hK hP (ci := 1) (q0 := 1) rfl rfl, hc_2⟩ rfl rfl hl.1 rfl (lv_room (Nat.le_of_ble_eq_true rfl)) dX8_noProgramme_6 ⟨(Nat.le_of_ble_eq_true rfl), (Nat.le_of_ble_eq_true rfl)⟩) hS (fun q _ h => hF_2 q h) hF_2 (fun u_2 it_1 t_2 H1 locs ht_2 hvm_2 hw_2 hB_2 hz_2 hk_2 hS1 => ?_)
  obtain ⟨hP, hK, hD⟩ := z_back (wc := [(qu, .inr (1, [.int 0, .ref eu, .int 0]))]) (wr := [(m0, .inr (10, [.int th, .ref qu, .ref qs, .ref qc, .ref qp, .int 0, .int (-1), .int 0, .null]))]) (w1 := [(qu, .inr (1, [.int 0, .ref eu, .int 0])), (it_1, .inr (0, [.int 0, .int (-1), .int 0, .ref qu]))]) (tr := []) hP hK hD [1] [0] rfl rfl rfl (by decide) ht_2 hvm_2 hk_2 hF_2 [] rfl hB_2
  have hS := hS1
  have hP : va_P D vwCl [(m0, .inr (10, [.int th, .ref qu, .ref qs, .ref qc, .ref qp, .int 0, .int (-1), .int 0, .null])), (qu, .inr (1, [.int 0, .ref eu, .int 0])), (it_1, .inr (0, [.int 0, .int (-1), .int 0, .ref qu]))] H1 := hP
  have hD : va_D A [(m0, .inr (10, [.int th, .ref qu, .ref qs, .ref qc, .ref qp, .int 0, .int (-1), .int 0, .null])), (qu, .inr (1, [.int 0, .ref eu, .int 0])), (it_1, .inr (0, [.int 0, .int (-1), .int 0, .ref qu]))] := hD
  have hK : va_K D vwCl [] s := hK
  clear hS1
  refine lv_astore_n (lv' := [(2, .ref it_1), (1, .int 0), (0, .ref m0)]) hx hb dX8_noProgramme_9 rfl hl (by decide) rfl (fun ls hl => ?_)
  refine lv_aload_n hx hb dX8_noProgramme_10 rfl (lv_at hl 0 rfl) ?_
  obtain ⟨hb_3, hc_3⟩ := z_call (wc := [(it_1, .inr (0, [.int 0, .int (-1), .int 0, .ref qu])), (qu, .inr (1, [.int 0, .ref eu, .int 0]))]) (tc := []) ([.ref it_1]) hP hK hD hS hA hE hX [2, 1] rfl rfl [] rfl
  have hF_3 := va_free (wc := [(it_1, .inr (0, [.int 0, .int (-1), .int 0, .ref qu])), (qu, .inr (1, [.int 0, .ref eu, .int 0]))]) hD hS hA [2, 1] rfl
  refine va_callFi (va_runF (As := []) (rest := []) (hK.1 0 _ rfl).2 ⟨hx, hb, hml, hown, hts⟩ (c_itr_hasNext l D it_1 qu eu _) (z_cF 0 hE zw_1280 zw_1284 zw_1286 zw_115 zw_1288 rfl rfl rfl (hX.2.1.1) (by decide +kernel) ⟨(Nat.le_of_ble_eq_true rfl), (Nat.le_of_ble_eq_true rfl)⟩) ⟨hb_3, va_recv hK hP (ci := 0) (q0 := 2) rfl rfl, hc_3⟩ rfl rfl hl.1 rfl (lv_room (Nat.le_of_ble_eq_true rfl)) dX8_noProgramme_11 ⟨(Nat.le_of_ble_eq_true rfl), (Nat.le_of_ble_eq_true rfl)⟩) hS (fun q _ h => hF_3 q h) hF_3 (fun r_3 u_3 t_3 H1 locs ht_3 hvm_3 hw_3 hB_3 hz_3 hk_3 hS1 => ?_)
  obtain ⟨hP, hK, hD⟩ := z_back (wc := [(it_1, .inr (0, [.int 0, .int (-1), .int 0, .ref qu])), (qu, .inr (1, [.int 0, .ref eu, .int 0]))]) (wr := [(m0, .inr (10, [.int th, .ref qu, .ref qs, .ref qc, .ref qp, .int 0, .int (-1), .int 0, .null]))]) (w1 := [(it_1, .inr (0, [.int 0, .int (-1), .int 0, .ref qu])), (qu, .inr (1, [.int 0, .ref eu, .int 0]))]) (tr := []) hP hK hD [2, 1] [0] rfl rfl rfl (by decide) ht_3 hvm_3 hk_3 hF_3 [] rfl hB_3
  have hS := hS1
  have hP : va_P D vwCl [(m0, .inr (10, [.int th, .ref qu, .ref qs, .ref qc, .ref qp, .int 0, .int (-1), .int 0, .null])), (it_1, .inr (0, [.int 0, .int (-1), .int 0, .ref qu])), (qu, .inr (1, [.int 0, .ref eu, .int 0]))] H1 := hP
  have hD : va_D A [(m0, .inr (10, [.int th, .ref qu, .ref qs, .ref qc, .ref qp, .int 0, .int (-1), .int 0, .null])), (it_1, .inr (0, [.int 0, .int (-1), .int 0, .ref qu])), (qu, .inr (1, [.int 0, .ref eu, .int 0]))] := hD
  have hK : va_K D vwCl [] s := hK
  clear hS1
  obtain rfl : r_3 = 0 := hw_3
  refine lv_if_eq (tgt := 49) hx hb dX8_noProgramme_16 (by decide) (fun c_4 => ?_) (fun c_4 => absurd (by decide) c_4)
  refine lv_iload_n hx hb dX8_noProgramme_49 rfl (lv_at hl 1 rfl) ?_
  refine lv_iconst (v := 5) hx hb dX8_noProgramme_50 (by decide) ?_
  refine lv_icmp_le (tgt := 58) hx hb dX8_noProgramme_51 (by decide) (fun c_5 => ?_) (fun c_5 => absurd (by decide) c_5)
  refine lv_iconst (v := 0) hx hb dX8_noProgramme_58 (by decide) ?_
  exact W.zret (v := 0) hx hb hr (by first | rfl | decide) (fun t ht hW => ⟨⟨0, (), rfl, rfl, z_end hP hK hD [0, 2] rfl rfl [] rfl ht hW.alike⟩, hS.F ht⟩) hS.2.2 dX8_noProgramme_59
theorem dX8_isOn_0 : decode cX8_isOn 0 = .ok (.aload_n 0, 1) := by decide +kernel
theorem dX8_isOn_1 : decode cX8_isOn 1 = .ok (.iload_n 1, 1) := by decide +kernel
theorem dX8_isOn_2 : decode cX8_isOn 2 = .ok (.invokevirtual 41, 3) := by decide +kernel
theorem dX8_isOn_5 : decode cX8_isOn 5 = .ok (.ifCond .eq 26, 3) := by decide +kernel
theorem dX8_isOn_31 : decode cX8_isOn 31 = .ok (.iconst 0, 1) := by decide +kernel
theorem dX8_isOn_32 : decode cX8_isOn 32 = .ok (.ireturn, 1) := by decide +kernel
set_option maxHeartbeats 4000000 in
set_option maxRecDepth 100000 in
theorem g_X8_isOn (l : Launch) (D : va_G) (m0 : Nat) (qu : Nat) (qs : Nat) (qc : Nat) (qp : Nat) (th : Int32) (eu : Nat) (a0 : Int32) (sz : Nat)  : Met l yX8_isOn [Cond.code yX8_isOn cX8_isOn 2 (some .boolean)] ({ frames := 3, cells := 0, slots := 0, locals := 100 }) (z_Pc D [.ref m0, .int a0] [(m0, .inr (10, [.int th, .ref qu, .ref qs, .ref qc, .ref qp, .int 0, .int (-1), .int 0, .null])), (qu, .inr (1, [.int 0, .ref eu, .int 0]))] [] sz) (va_Qi (fun (r : Int32) (_ : Unit) => r = 0) (fun _ t => z_W D [(m0, .inr (10, [.int th, .ref qu, .ref qs, .ref qc, .ref qp, .int 0, .int (-1), .int 0, .null])), (qu, .inr (1, [.int 0, .ref eu, .int 0]))] [] (va_A [(m0, .inr (10, [.int th, .ref qu, .ref qs, .ref qc, .ref qp, .int 0, .int (-1), .int 0, .null])), (qu, .inr (1, [.int 0, .ref eu, .int 0]))] sz) t) (va_A [(m0, .inr (10, [.int th, .ref qu, .ref qs, .ref qc, .ref qp, .int 0, .int (-1), .int 0, .null])), (qu, .inr (1, [.int 0, .ref eu, .int 0]))] sz)) 0 0 (va_A [(m0, .inr (10, [.int th, .ref qu, .ref qs, .ref qc, .ref qp, .int 0, .int (-1), .int 0, .null])), (qu, .inr (1, [.int 0, .ref eu, .int 0]))] sz) := by
  refine Met.ofW (cc := cX8_isOn) (maxL := 2) (ret := (some .boolean)) (by decide +kernel) rfl ?_
  intro p e s m args below meth c s₁ B hml hv
  obtain ⟨rfl, hsz, hP, hK, hD0, hE, hX0⟩ := hv
  have hx := B.exec
  have hb := B.bytes
  have hr := B.returns
  have hts := z_E.ts (args := [.ref m0, .int a0].toArray) hE
  have hown : s.vm.findClass RX8 = some m.cls := findClass_of_methodNamed B.named
  have hlocks := B.notSynchronized
  subst hsz
  have hD := hD0.self (sz := s.heap.size)
  generalize hAe : va_A [(m0, .inr (10, [.int th, .ref qu, .ref qs, .ref qc, .ref qp, .int 0, .int (-1), .int 0, .null])), (qu, .inr (1, [.int 0, .ref eu, .int 0]))] s.heap.size = A at hD hX0 ⊢
  have hX : z_X D A s s.heap := hX0
  have hA : ∀ q : Nat, s.heap.size ≤ q → A q := fun q h => by rw [← hAe]; exact Or.inr h
  have hS : va_S A s.heap s.heap [] := va_S.rf
  have hP : va_P D vwCl [(m0, .inr (10, [.int th, .ref qu, .ref qs, .ref qc, .ref qp, .int 0, .int (-1), .int 0, .null])), (qu, .inr (1, [.int 0, .ref eu, .int 0]))] s.heap := hP
  have hl := lv_entry ([.ref m0, .int a0]) (n := 2) (Nat.le_of_ble_eq_true rfl)
  rw [lg_entry_eq]
  generalize (lg_sl ([.ref m0, .int a0]) ++ List.replicate (2 - (lg_sl ([.ref m0, .int a0])).length) Slot.unset).toArray = ls at hl ⊢
  have hl : lv_has ls 2 [(0, .ref m0), (1, .int a0)] := hl
  skip
  refine lv_aload_n hx hb dX8_isOn_0 rfl (lv_at hl 0 rfl) ?_
  refine lv_iload_n hx hb dX8_isOn_1 rfl (lv_at hl 1 rfl) ?_
  obtain ⟨hb_1, hc_1⟩ := z_call (wc := [(m0, .inr (10, [.int th, .ref qu, .ref qs, .ref qc, .ref qp, .int 0, .int (-1), .int 0, .null])), (qu, .inr (1, [.int 0, .ref eu, .int 0]))]) (tc := []) ([.ref m0, .int a0]) hP hK hD hS hA hE hX [0, 1] rfl rfl [] rfl
  have hF_1 := va_free (wc := [(m0, .inr (10, [.int th, .ref qu, .ref qs, .ref qc, .ref qp, .int 0, .int (-1), .int 0, .null])), (qu, .inr (1, [.int 0, .ref eu, .int 0]))]) hD hS hA [0, 1] rfl
  refine va_calli (va_runV (As := [.int a0]) (rest := []) ⟨hx, hb, hml, hown, hts⟩ (f_X8_isUnit l D m0 qu qs qc qp th eu a0 _ ) (z_cV 1 hE zw_1225 zw_1227 zw_62 zw_96 zw_1228 rfl rfl rfl (by decide +kernel) ⟨(Nat.le_of_ble_eq_true rfl), (Nat.le_of_ble_eq_true rfl)⟩) ⟨hb_1, va_recv hK hP (ci := 10) (q0 := 0) rfl rfl, hc_1⟩ rfl rfl hl.1 rfl (lv_room (Nat.le_of_ble_eq_true rfl)) dX8_isOn_2 ⟨(Nat.le_of_ble_eq_true rfl), (Nat.le_of_ble_eq_true rfl)⟩) hS (fun q _ h => hF_1 q h) hF_1 (fun r_1 u_1 t_1 H1 locs ht_1 hvm_1 hw_1 hB_1 hz_1 hk_1 hS1 => ?_)
  obtain ⟨hP, hK, hD⟩ := z_back (wc := [(m0, .inr (10, [.int th, .ref qu, .ref qs, .ref qc, .ref qp, .int 0, .int (-1), .int 0, .null])), (qu, .inr (1, [.int 0, .ref eu, .int 0]))]) (wr := []) (w1 := [(m0, .inr (10, [.int th, .ref qu, .ref qs, .ref qc, .ref qp, .int 0, .int (-1), .int 0, .null])), (qu, .inr (1, [.int 0, .ref eu, .int 0]))]) (tr := []) hP hK hD [0, 1] [] rfl rfl rfl (by decide) ht_1 hvm_1 hk_1 hF_1 [] rfl hB_1
  have hS := hS1
  have hP : va_P D vwCl [(m0, .inr (10, [.int th, .ref qu, .ref qs, .ref qc, .ref qp, .int 0, .int (-1), .int 0, .null])), (qu, .inr (1, [.int 0, .ref eu, .int 0]))] H1 := hP
  have hD : va_D A [(m0, .inr (10, [.int th, .ref qu, .ref qs, .ref qc, .ref qp, .int 0, .int (-1), .int 0, .null])), (qu, .inr (1, [.int 0, .ref eu, .int 0]))] := hD
  have hK : va_K D vwCl [] s := hK
  clear hS1
  obtain rfl : r_1 = 0 := hw_1
  refine lv_if_eq (tgt := 31) hx hb dX8_isOn_5 (by decide) (fun c_2 => ?_) (fun c_2 => absurd (by decide) c_2)
  refine lv_iconst (v := 0) hx hb dX8_isOn_31 (by decide) ?_
  exact W.zret (v := 0) hx hb hr (by first | rfl | decide) (fun t ht hW => ⟨⟨0, (), rfl, rfl, z_end hP hK hD [0, 1] rfl rfl [] rfl ht hW.alike⟩, hS.F ht⟩) hS.2.2 dX8_isOn_32
