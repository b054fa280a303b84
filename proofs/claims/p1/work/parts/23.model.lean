theorem dX8_takes_0 : decode cX8_takes 0 = .ok (.iload_n 1, 1) := by decide +kernel
theorem dX8_takes_1 : decode cX8_takes 1 = .ok (.istore 4, 2) := by decide +kernel
theorem dX8_takes_3 : decode cX8_takes 3 = .ok (.iconst 0, 1) := by decide +kernel
theorem dX8_takes_4 : decode cX8_takes 4 = .ok (.istore 5, 2) := by decide +kernel
theorem dX8_takes_6 : decode cX8_takes 6 = .ok (.iload 5, 2) := by decide +kernel
theorem dX8_takes_8 : decode cX8_takes 8 = .ok (.aload_n 0, 1) := by decide +kernel
theorem dX8_takes_9 : decode cX8_takes 9 = .ok (.getfield 10, 3) := by decide +kernel
theorem dX8_takes_12 : decode cX8_takes 12 = .ok (.invokevirtual 33, 3) := by decide +kernel
theorem dX8_takes_15 : decode cX8_takes 15 = .ok (.if_icmp .ge 20, 3) := by decide +kernel
theorem dX8_takes_35 : decode cX8_takes 35 = .ok (.iload 4, 2) := by decide +kernel
theorem dX8_takes_37 : decode cX8_takes 37 = .ok (.aload_n 0, 1) := by decide +kernel
theorem dX8_takes_38 : decode cX8_takes 38 = .ok (.getfield 286, 3) := by decide +kernel
theorem zw_1087 : Cond.fieldLink RX8 286 "TwofrontArcadeModel" "best" "I" ∈ z_Ts := z_m 1087 (by decide +kernel) (by decide +kernel)
theorem dX8_takes_41 : decode cX8_takes 41 = .ok (.if_icmp .ge 7, 3) := by decide +kernel
theorem dX8_takes_44 : decode cX8_takes 44 = .ok (.iconst 1, 1) := by decide +kernel
theorem dX8_takes_45 : decode cX8_takes 45 = .ok (.goto 4, 3) := by decide +kernel
theorem dX8_takes_49 : decode cX8_takes 49 = .ok (.istore 5, 2) := by decide +kernel
theorem dX8_takes_51 : decode cX8_takes 51 = .ok (.iload 4, 2) := by decide +kernel
theorem dX8_takes_53 : decode cX8_takes 53 = .ok (.aload_n 0, 1) := by decide +kernel
theorem dX8_takes_54 : decode cX8_takes 54 = .ok (.getfield 286, 3) := by decide +kernel
theorem dX8_takes_57 : decode cX8_takes 57 = .ok (.if_icmp .ne 7, 3) := by decide +kernel
theorem dX8_takes_64 : decode cX8_takes 64 = .ok (.iconst 0, 1) := by decide +kernel
theorem dX8_takes_65 : decode cX8_takes 65 = .ok (.istore 6, 2) := by decide +kernel
theorem dX8_takes_67 : decode cX8_takes 67 = .ok (.iconst 0, 1) := by decide +kernel
theorem dX8_takes_68 : decode cX8_takes 68 = .ok (.istore 7, 2) := by decide +kernel
theorem dX8_takes_70 : decode cX8_takes 70 = .ok (.iload 7, 2) := by decide +kernel
theorem dX8_takes_72 : decode cX8_takes 72 = .ok (.aload_n 0, 1) := by decide +kernel
theorem dX8_takes_73 : decode cX8_takes 73 = .ok (.getfield 10, 3) := by decide +kernel
theorem dX8_takes_76 : decode cX8_takes 76 = .ok (.invokevirtual 33, 3) := by decide +kernel
theorem dX8_takes_79 : decode cX8_takes 79 = .ok (.if_icmp .ge 61, 3) := by decide +kernel
theorem dX8_takes_140 : decode cX8_takes 140 = .ok (.iload 5, 2) := by decide +kernel
theorem dX8_takes_142 : decode cX8_takes 142 = .ok (.ifCond .eq 14, 3) := by decide +kernel
theorem dX8_takes_145 : decode cX8_takes 145 = .ok (.aload_n 0, 1) := by decide +kernel
theorem dX8_takes_146 : decode cX8_takes 146 = .ok (.iload 4, 2) := by decide +kernel
theorem dX8_takes_148 : decode cX8_takes 148 = .ok (.putfield 286, 3) := by decide +kernel
theorem dX8_takes_151 : decode cX8_takes 151 = .ok (.aload_n 0, 1) := by decide +kernel
theorem dX8_takes_152 : decode cX8_takes 152 = .ok (.aload_n 3, 1) := by decide +kernel
theorem dX8_takes_153 : decode cX8_takes 153 = .ok (.putfield 289, 3) := by decide +kernel
theorem zw_1088 : Cond.fieldLink RX8 289 "TwofrontArcadeModel" "bestStarts" "[I" ∈ z_Ts := z_m 1088 (by decide +kernel) (by decide +kernel)
theorem dX8_takes_156 : decode cX8_takes 156 = .ok (.return_, 1) := by decide +kernel
set_option maxHeartbeats 4000000 in
set_option maxRecDepth 100000 in
theorem g_X8_takes (l : Launch) (D : va_G) (m0 : Nat) (qu : Nat) (qs : Nat) (qc : Nat) (qp : Nat) (th : Int32) (eu : Nat) (qe : Nat) (qt : Nat) (sz : Nat)  : Met l yX8_takes [Cond.code yX8_takes cX8_takes 8 none] ({ frames := 1, cells := 0, slots := 0, locals := 40 }) (z_Pc D [.ref m0, .int 0, .ref qe, .ref qt] [(m0, .inr (10, [.int th, .ref qu, .ref qs, .ref qc, .ref qp, .int 0, .int (-1), .int 2147483647, .ref qt])), (qu, .inr (1, [.int 0, .ref eu, .int 0]))] [] sz) (va_Qv (fun _ : Unit => True) (fun _ t => z_W D [(m0, .inr (10, [.int th, .ref qu, .ref qs, .ref qc, .ref qp, .int 0, .int (-1), .int 0, .ref qt])), (qu, .inr (1, [.int 0, .ref eu, .int 0]))] [] (va_A [(m0, .inr (10, [.int th, .ref qu, .ref qs, .ref qc, .ref qp, .int 0, .int (-1), .int 2147483647, .ref qt])), (qu, .inr (1, [.int 0, .ref eu, .int 0]))] sz) t) (va_A [(m0, .inr (10, [.int th, .ref qu, .ref qs, .ref qc, .ref qp, .int 0, .int (-1), .int 2147483647, .ref qt])), (qu, .inr (1, [.int 0, .ref eu, .int 0]))] sz)) 0 0 (va_A [(m0, .inr (10, [.int th, .ref qu, .ref qs, .ref qc, .ref qp, .int 0, .int (-1), .int 2147483647, .ref qt])), (qu, .inr (1, [.int 0, .ref eu, .int 0]))] sz) := by
  refine Met.ofW (cc := cX8_takes) (maxL := 8) (ret := none) (by decide +kernel) rfl ?_
  intro p e s m args below meth c s₁ B hml hv
  obtain ⟨rfl, hsz, hP, hK, hD0, hE, hX0⟩ := hv
  have hx := B.exec
  have hb := B.bytes
  have hr := B.returns
  have hts := z_E.ts (args := [.ref m0, .int 0, .ref qe, .ref qt].toArray) hE
  have hown : s.vm.findClass RX8 = some m.cls := findClass_of_methodNamed B.named
  have hlocks := B.notSynchronized
  subst hsz
  have hD := hD0.self (sz := s.heap.size)
  generalize hAe : va_A [(m0, .inr (10, [.int th, .ref qu, .ref qs, .ref qc, .ref qp, .int 0, .int (-1), .int 2147483647, .ref qt])), (qu, .inr (1, [.int 0, .ref eu, .int 0]))] s.heap.size = A at hD hX0 ⊢
  have hX : z_X D A s s.heap := hX0
  have hA : ∀ q : Nat, s.heap.size ≤ q → A q := fun q h => by rw [← hAe]; exact Or.inr h
  have hS : va_S A s.heap s.heap [] := va_S.rf
  have hP : va_P D vwCl [(m0, .inr (10, [.int th, .ref qu, .ref qs, .ref qc, .ref qp, .int 0, .int (-1), .int 2147483647, .ref qt])), (qu, .inr (1, [.int 0, .ref eu, .int 0]))] s.heap := hP
  have hl := lv_entry ([.ref m0, .int 0, .ref qe, .ref qt]) (n := 8) (Nat.le_of_ble_eq_true rfl)
  rw [lg_entry_eq]
  generalize (lg_sl ([.ref m0, .int 0, .ref qe, .ref qt]) ++ List.replicate (8 - (lg_sl ([.ref m0, .int 0, .ref qe, .ref qt])).length) Slot.unset).toArray = ls at hl ⊢
  have hl : lv_has ls 8 [(0, .ref m0), (1, .int 0), (2, .ref qe), (3, .ref qt)] := hl
  skip
  refine lv_iload_n hx hb dX8_takes_0 rfl (lv_at hl 1 rfl) ?_
  refine lv_istore (lv' := [(4, .int 0), (0, .ref m0), (1, .int 0), (2, .ref qe), (3, .ref qt)]) hx hb dX8_takes_1 hl (by decide) rfl (fun ls hl => ?_)
  refine lv_iconst (v := 0) hx hb dX8_takes_3 (by decide) ?_
  refine lv_istore (lv' := [(5, .int 0), (4, .int 0), (0, .ref m0), (1, .int 0), (2, .ref qe), (3, .ref qt)]) hx hb dX8_takes_4 hl (by decide) rfl (fun ls hl => ?_)
  refine lv_iload hx hb dX8_takes_6 (lv_at hl 0 rfl) ?_
  refine lv_aload_n hx hb dX8_takes_8 rfl (lv_at hl 2 rfl) ?_
  refine va_get (D := D) (ci := 10) (v := .ref qu) (C := RX8) (T := TX8) (N := 9) hx hb hts zin_X8 hown hK hP 0 rfl rfl 1 (by decide) (hts _ zw_1081) (fun _ h9 => h9) rfl dX8_takes_9 ?_
  obtain ⟨hb_1, hc_1⟩ := z_call (wc := [(qu, .inr (1, [.int 0, .ref eu, .int 0]))]) (tc := []) ([.ref qu]) hP hK hD hS hA hE hX [1] rfl rfl [] rfl
  have hF_1 := va_free (wc := [(qu, .inr (1, [.int 0, .ref eu, .int 0]))]) hD hS hA [1] rfl
  refine va_calli (va_runV (As := []) (rest := [.int 0]) ⟨hx, hb, hml, hown, hts⟩ (c_J_size l D qu 0 eu 0 _ ) (z_cV 0 hE zw_1125 zw_1126 zw_1127 zw_99 zw_1128 rfl rfl rfl (by decide +kernel) ⟨(Nat.le_of_ble_eq_true rfl), (Nat.le_of_ble_eq_true rfl)⟩) ⟨hb_1, va_recv hK hP (ci := 1) (q0 := 1) rfl rfl, hc_1⟩ rfl rfl hl.1 rfl (lv_room (Nat.le_of_ble_eq_true rfl)) dX8_takes_12 ⟨(Nat.le_of_ble_eq_true rfl), (Nat.le_of_ble_eq_true rfl)⟩) hS (fun q _ h => hF_1 q h) hF_1 (fun r_1 u_1 t_1 H1 locs ht_1 hvm_1 hw_1 hB_1 hz_1 hk_1 hS1 => ?_)
  obtain ⟨hP, hK, hD⟩ := z_back (wc := [(qu, .inr (1, [.int 0, .ref eu, .int 0]))]) (wr := [(m0, .inr (10, [.int th, .ref qu, .ref qs, .ref qc, .ref qp, .int 0, .int (-1), .int 2147483647, .ref qt]))]) (w1 := [(qu, .inr (1, [.int 0, .ref eu, .int 0]))]) (tr := []) hP hK hD [1] [0] rfl rfl rfl (by decide) ht_1 hvm_1 hk_1 hF_1 [] rfl hB_1
  have hS := hS1
  have hP : va_P D vwCl [(m0, .inr (10, [.int th, .ref qu, .ref qs, .ref qc, .ref qp, .int 0, .int (-1), .int 2147483647, .ref qt])), (qu, .inr (1, [.int 0, .ref eu, .int 0]))] H1 := hP
  have hD : va_D A [(m0, .inr (10, [.int th, .ref qu, .ref qs, .ref qc, .ref qp, .int 0, .int (-1), .int 2147483647, .ref qt])), (qu, .inr (1, [.int 0, .ref eu, .int 0]))] := hD
  have hK : va_K D vwCl [] s := hK
  clear hS1
  obtain rfl : r_1 = 0 := hw_1
  refine lv_icmp_ge (tgt := 35) hx hb dX8_takes_15 (by decide) (fun c_2 => ?_) (fun c_2 => absurd (by decide) c_2)
  refine lv_iload hx hb dX8_takes_35 (lv_at hl 1 rfl) ?_
  refine lv_aload_n hx hb dX8_takes_37 rfl (lv_at hl 2 rfl) ?_
  refine va_get (D := D) (ci := 10) (v := .int 2147483647) (C := RX8) (T := TX8) (N := 9) hx hb hts zin_X8 hown hK hP 0 rfl rfl 7 (by decide) (hts _ zw_1087) (fun _ h9 => h9) rfl dX8_takes_38 ?_
  refine lv_icmp_ge (tgt := 48) hx hb dX8_takes_41 (by decide) (fun c_3 => absurd c_3 (by decide)) (fun c_3 => ?_)
  refine lv_iconst (v := 1) hx hb dX8_takes_44 (by decide) ?_
  refine lv_goto (tgt := 49) hx hb dX8_takes_45 (by decide) ?_
  refine lv_istore (lv' := [(5, .int 1), (4, .int 0), (0, .ref m0), (1, .int 0), (2, .ref qe), (3, .ref qt)]) hx hb dX8_takes_49 hl (by decide) rfl (fun ls hl => ?_)
  refine lv_iload hx hb dX8_takes_51 (lv_at hl 1 rfl) ?_
  refine lv_aload_n hx hb dX8_takes_53 rfl (lv_at hl 2 rfl) ?_
  refine va_get (D := D) (ci := 10) (v := .int 2147483647) (C := RX8) (T := TX8) (N := 9) hx hb hts zin_X8 hown hK hP 0 rfl rfl 7 (by decide) (hts _ zw_1087) (fun _ h9 => h9) rfl dX8_takes_54 ?_
  refine lv_icmp_ne (tgt := 64) hx hb dX8_takes_57 (by decide) (fun c_4 => ?_) (fun c_4 => absurd c_4 (by decide))
  refine lv_iconst (v := 0) hx hb dX8_takes_64 (by decide) ?_
  refine lv_istore (lv' := [(6, .int 0), (5, .int 1), (4, .int 0), (0, .ref m0), (1, .int 0), (2, .ref qe), (3, .ref qt)]) hx hb dX8_takes_65 hl (by decide) rfl (fun ls hl => ?_)
  refine lv_iconst (v := 0) hx hb dX8_takes_67 (by decide) ?_
  refine lv_istore (lv' := [(7, .int 0), (6, .int 0), (5, .int 1), (4, .int 0), (0, .ref m0), (1, .int 0), (2, .ref qe), (3, .ref qt)]) hx hb dX8_takes_68 hl (by decide) rfl (fun ls hl => ?_)
  refine lv_iload hx hb dX8_takes_70 (lv_at hl 0 rfl) ?_
  refine lv_aload_n hx hb dX8_takes_72 rfl (lv_at hl 4 rfl) ?_
  refine va_get (D := D) (ci := 10) (v := .ref qu) (C := RX8) (T := TX8) (N := 9) hx hb hts zin_X8 hown hK hP 0 rfl rfl 1 (by decide) (hts _ zw_1081) (fun _ h9 => h9) rfl dX8_takes_73 ?_
  obtain ⟨hb_5, hc_5⟩ := z_call (wc := [(qu, .inr (1, [.int 0, .ref eu, .int 0]))]) (tc := []) ([.ref qu]) hP hK hD hS hA hE hX [1] rfl rfl [] rfl
  have hF_5 := va_free (wc := [(qu, .inr (1, [.int 0, .ref eu, .int 0]))]) hD hS hA [1] rfl
  refine va_calli (va_runV (As := []) (rest := [.int 0]) ⟨hx, hb, hml, hown, hts⟩ (c_J_size l D qu 0 eu 0 _ ) (z_cV 0 hE zw_1125 zw_1126 zw_1127 zw_99 zw_1128 rfl rfl rfl (by decide +kernel) ⟨(Nat.le_of_ble_eq_true rfl), (Nat.le_of_ble_eq_true rfl)⟩) ⟨hb_5, va_recv hK hP (ci := 1) (q0 := 1) rfl rfl, hc_5⟩ rfl rfl hl.1 rfl (lv_room (Nat.le_of_ble_eq_true rfl)) dX8_takes_76 ⟨(Nat.le_of_ble_eq_true rfl), (Nat.le_of_ble_eq_true rfl)⟩) hS (fun q _ h => hF_5 q h) hF_5 (fun r_5 u_5 t_5 H1 locs ht_5 hvm_5 hw_5 hB_5 hz_5 hk_5 hS1 => ?_)
  obtain ⟨hP, hK, hD⟩ := z_back (wc := [(qu, .inr (1, [.int 0, .ref eu, .int 0]))]) (wr := [(m0, .inr (10, [.int th, .ref qu, .ref qs, .ref qc, .ref qp, .int 0, .int (-1), .int 2147483647, .ref qt]))]) (w1 := [(qu, .inr (1, [.int 0, .ref eu, .int 0]))]) (tr := []) hP hK hD [1] [0] rfl rfl rfl (by decide) ht_5 hvm_5 hk_5 hF_5 [] rfl hB_5
  have hS := hS1
  have hP : va_P D vwCl [(m0, .inr (10, [.int th, .ref qu, .ref qs, .ref qc, .ref qp, .int 0, .int (-1), .int 2147483647, .ref qt])), (qu, .inr (1, [.int 0, .ref eu, .int 0]))] H1 := hP
  have hD : va_D A [(m0, .inr (10, [.int th, .ref qu, .ref qs, .ref qc, .ref qp, .int 0, .int (-1), .int 2147483647, .ref qt])), (qu, .inr (1, [.int 0, .ref eu, .int 0]))] := hD
  have hK : va_K D vwCl [] s := hK
  clear hS1
  obtain rfl : r_5 = 0 := hw_5
  refine lv_icmp_ge (tgt := 140) hx hb dX8_takes_79 (by decide) (fun c_6 => ?_) (fun c_6 => absurd (by decide) c_6)
  refine lv_iload hx hb dX8_takes_140 (lv_at hl 2 rfl) ?_
  refine lv_if_eq (tgt := 156) hx hb dX8_takes_142 (by decide) (fun c_7 => absurd c_7 (by decide)) (fun c_7 => ?_)
  refine lv_aload_n hx hb dX8_takes_145 rfl (lv_at hl 4 rfl) ?_
  refine lv_iload hx hb dX8_takes_146 (lv_at hl 3 rfl) ?_
  refine va_put (D := D) (ci := 10) (v := .int 0) (ty := .int) (C := RX8) (T := TX8) (N := 9) hx hb hts zin_X8 tyX8 tyX8_ok nmX8 hown hK hP hD hS 0 rfl rfl 7 (by decide) (hts _ zw_1087) (fun _ h9 => h9) rfl (by decide +kernel) rfl rfl (Nat.le_of_ble_eq_true rfl) dX8_takes_148 (fun H locs hP hD hS => ?_)
  have hP : va_P D vwCl [(m0, .inr (10, [.int th, .ref qu, .ref qs, .ref qc, .ref qp, .int 0, .int (-1), .int 0, .ref qt])), (qu, .inr (1, [.int 0, .ref eu, .int 0]))] H := hP
  have hD : va_D A [(m0, .inr (10, [.int th, .ref qu, .ref qs, .ref qc, .ref qp, .int 0, .int (-1), .int 0, .ref qt])), (qu, .inr (1, [.int 0, .ref eu, .int 0]))] := hD
  refine lv_aload_n hx hb dX8_takes_151 rfl (lv_at hl 4 rfl) ?_
  refine lv_aload_n hx hb dX8_takes_152 rfl (lv_at hl 7 rfl) ?_
  refine va_put (D := D) (ci := 10) (v := .ref qt) (ty := .array .int) (C := RX8) (T := TX8) (N := 9) hx hb hts zin_X8 tyX8 tyX8_ok nmX8 hown hK hP hD hS 0 rfl rfl 8 (by decide) (hts _ zw_1088) (fun _ h9 => h9) rfl (by decide +kernel) rfl rfl (Nat.le_of_ble_eq_true rfl) dX8_takes_153 (fun H locs hP hD hS => ?_)
  have hP : va_P D vwCl [(m0, .inr (10, [.int th, .ref qu, .ref qs, .ref qc, .ref qp, .int 0, .int (-1), .int 0, .ref qt])), (qu, .inr (1, [.int 0, .ref eu, .int 0]))] H := hP
  have hD : va_D A [(m0, .inr (10, [.int th, .ref qu, .ref qs, .ref qc, .ref qp, .int 0, .int (-1), .int 0, .ref qt])), (qu, .inr (1, [.int 0, .ref eu, .int 0]))] := hD
  exact W.vret hx hb hr (fun t ht hW => ⟨⟨(), rfl, trivial, z_end hP hK hD [0, 1] rfl rfl [] rfl ht hW.alike⟩, hS.F ht⟩) hS.2.2 dX8_takes_156
theorem dX8_goes_0 : decode cX8_goes 0 = .ok (.iconst 1, 1) := by decide +kernel
theorem dX8_goes_1 : decode cX8_goes 1 = .ok (.istore 4, 2) := by decide +kernel
theorem dX8_goes_3 : decode cX8_goes 3 = .ok (.iconst 0, 1) := by decide +kernel
theorem dX8_goes_4 : decode cX8_goes 4 = .ok (.istore 5, 2) := by decide +kernel
theorem dX8_goes_6 : decode cX8_goes 6 = .ok (.iconst 0, 1) := by decide +kernel
theorem dX8_goes_7 : decode cX8_goes 7 = .ok (.istore 6, 2) := by decide +kernel
theorem dX8_goes_9 : decode cX8_goes 9 = .ok (.iload 6, 2) := by decide +kernel
theorem dX8_goes_11 : decode cX8_goes 11 = .ok (.aload_n 0, 1) := by decide +kernel
theorem dX8_goes_12 : decode cX8_goes 12 = .ok (.getfield 10, 3) := by decide +kernel
theorem dX8_goes_15 : decode cX8_goes 15 = .ok (.invokevirtual 33, 3) := by decide +kernel
theorem dX8_goes_18 : decode cX8_goes 18 = .ok (.if_icmp .ge 66, 3) := by decide +kernel
theorem dX8_goes_84 : decode cX8_goes 84 = .ok (.iload 4, 2) := by decide +kernel
theorem dX8_goes_86 : decode cX8_goes 86 = .ok (.ifCond .eq 11, 3) := by decide +kernel
theorem dX8_goes_89 : decode cX8_goes 89 = .ok (.aload_n 0, 1) := by decide +kernel
theorem dX8_goes_90 : decode cX8_goes 90 = .ok (.iload_n 1, 1) := by decide +kernel
theorem dX8_goes_91 : decode cX8_goes 91 = .ok (.aload_n 2, 1) := by decide +kernel
theorem dX8_goes_92 : decode cX8_goes 92 = .ok (.aload_n 3, 1) := by decide +kernel
theorem dX8_goes_93 : decode cX8_goes 93 = .ok (.invokevirtual 268, 3) := by decide +kernel
theorem zw_1697 : Cond.methodLink RX8 268 yX8_takes ∈ z_Ts := z_m 1697 (by decide +kernel) (by decide +kernel)
theorem zw_1699 : Cond.instanceMethod yX8_takes ∈ z_Ts := z_m 1699 (by decide +kernel) (by decide +kernel)
theorem zw_87 : Cond.selects RX8 yX8_takes yX8_takes ∈ z_Ts := z_m 87 (by decide +kernel) (by decide +kernel)
theorem zw_1700 : Cond.code yX8_takes cX8_takes 8 none ∈ z_Ts := z_m 1700 (by decide +kernel) (by decide +kernel)
theorem dX8_goes_96 : decode cX8_goes 96 = .ok (.return_, 1) := by decide +kernel
set_option maxHeartbeats 4000000 in
set_option maxRecDepth 100000 in
theorem g_X8_goes (l : Launch) (D : va_G) (m0 : Nat) (qu : Nat) (qs : Nat) (qc : Nat) (qp : Nat) (th : Int32) (eu : Nat) (qe : Nat) (qt : Nat) (sz : Nat)  : Met l yX8_goes [Cond.code yX8_goes cX8_goes 10 none] ({ frames := 2, cells := 0, slots := 0, locals := 70 }) (z_Pc D [.ref m0, .int 0, .ref qe, .ref qt] [(m0, .inr (10, [.int th, .ref qu, .ref qs, .ref qc, .ref qp, .int 0, .int (-1), .int 2147483647, .ref qt])), (qu, .inr (1, [.int 0, .ref eu, .int 0]))] [] sz) (va_Qv (fun _ : Unit => True) (fun _ t => z_W D [(m0, .inr (10, [.int th, .ref qu, .ref qs, .ref qc, .ref qp, .int 0, .int (-1), .int 0, .ref qt])), (qu, .inr (1, [.int 0, .ref eu, .int 0]))] [] (va_A [(m0, .inr (10, [.int th, .ref qu, .ref qs, .ref qc, .ref qp, .int 0, .int (-1), .int 2147483647, .ref qt])), (qu, .inr (1, [.int 0, .ref eu, .int 0]))] sz) t) (va_A [(m0, .inr (10, [.int th, .ref qu, .ref qs, .ref qc, .ref qp, .int 0, .int (-1), .int 2147483647, .ref qt])), (qu, .inr (1, [.int 0, .ref eu, .int 0]))] sz)) 0 0 (va_A [(m0, .inr (10, [.int th, .ref qu, .ref qs, .ref qc, .ref qp, .int 0, .int (-1), .int 2147483647, .ref qt])), (qu, .inr (1, [.int 0, .ref eu, .int 0]))] sz) := by
  refine Met.ofW (cc := cX8_goes) (maxL := 10) (ret := none) (by decide +kernel) rfl ?_
  intro p e s m args below meth c s₁ B hml hv
  obtain ⟨rfl, hsz, hP, hK, hD0, hE, hX0⟩ := hv
  have hx := B.exec
  have hb := B.bytes
  have hr := B.returns
  have hts := z_E.ts (args := [.ref m0, .int 0, .ref qe, .ref qt].toArray) hE
  have hown : s.vm.findClass RX8 = some m.cls := findClass_of_methodNamed B.named
  have hlocks := B.notSynchronized
  subst hsz
  have hD := hD0.self (sz := s.heap.size)
  generalize hAe : va_A [(m0, .inr (10, [.int th, .ref qu, .ref qs, .ref qc, .ref qp, .int 0, .int (-1), .int 2147483647, .ref qt])), (qu, .inr (1, [.int 0, .ref eu, .int 0]))] s.heap.size = A at hD hX0 ⊢
  have hX : z_X D A s s.heap := hX0
  have hA : ∀ q : Nat, s.heap.size ≤ q → A q := fun q h => by rw [← hAe]; exact Or.inr h
  have hS : va_S A s.heap s.heap [] := va_S.rf
  have hP : va_P D vwCl [(m0, .inr (10, [.int th, .ref qu, .ref qs, .ref qc, .ref qp, .int 0, .int (-1), .int 2147483647, .ref qt])), (qu, .inr (1, [.int 0, .ref eu, .int 0]))] s.heap := hP
  have hl := lv_entry ([.ref m0, .int 0, .ref qe, .ref qt]) (n := 10) (Nat.le_of_ble_eq_true rfl)
  rw [lg_entry_eq]
  generalize (lg_sl ([.ref m0, .int 0, .ref qe, .ref qt]) ++ List.replicate (10 - (lg_sl ([.ref m0, .int 0, .ref qe, .ref qt])).length) Slot.unset).toArray = ls at hl ⊢
  have hl : lv_has ls 10 [(0, .ref m0), (1, .int 0), (2, .ref qe), (3, .ref qt)] := hl
  skip
  refine lv_iconst (v := 1) hx hb dX8_goes_0 (by decide) ?_
  refine lv_istore (lv' := [(4, .int 1), (0, .ref m0), (1, .int 0), (2, .ref qe), (3, .ref qt)]) hx hb dX8_goes_1 hl (by decide) rfl (fun ls hl => ?_)
  refine lv_iconst (v := 0) hx hb dX8_goes_3 (by decide) ?_
  refine lv_istore (lv' := [(5, .int 0), (4, .int 1), (0, .ref m0), (1, .int 0), (2, .ref qe), (3, .ref qt)]) hx hb dX8_goes_4 hl (by decide) rfl (fun ls hl => ?_)
  refine lv_iconst (v := 0) hx hb dX8_goes_6 (by decide) ?_
  refine lv_istore (lv' := [(6, .int 0), (5, .int 0), (4, .int 1), (0, .ref m0), (1, .int 0), (2, .ref qe), (3, .ref qt)]) hx hb dX8_goes_7 hl (by decide) rfl (fun ls hl => ?_)
  refine lv_iload hx hb dX8_goes_9 (lv_at hl 0 rfl) ?_
  refine lv_aload_n hx hb dX8_goes_11 rfl (lv_at hl 3 rfl) ?_
  refine va_get (D := D) (ci := 10) (v := .ref qu) (C := RX8) (T := TX8) (N := 9) hx hb hts zin_X8 hown hK hP 0 rfl rfl 1 (by decide) (hts _ zw_1081) (fun _ h9 => h9) rfl dX8_goes_12 ?_
  obtain ⟨hb_1, hc_1⟩ := z_call (wc := [(qu, .inr (1, [.int 0, .ref eu, .int 0]))]) (tc := []) ([.ref qu]) hP hK hD hS hA hE hX [1] rfl rfl [] rfl
  have hF_1 := va_free (wc := [(qu, .inr (1, [.int 0, .ref eu, .int 0]))]) hD hS hA [1] rfl
  refine va_calli (va_runV (As := []) (rest := [.int 0]) ⟨hx, hb, hml, hown, hts⟩ (c_J_size l D qu 0 eu 0 _ ) (z_cV 0 hE zw_1125 zw_1126 zw_1127 zw_99 zw_1128 rfl rfl rfl (by decide +kernel) ⟨(Nat.le_of_ble_eq_true rfl), (Nat.le_of_ble_eq_true rfl)⟩) ⟨hb_1, va_recv hK hP (ci := 1) (q0 := 1) rfl rfl, hc_1⟩ rfl rfl hl.1 rfl (lv_room (Nat.le_of_ble_eq_true rfl)) dX8_goes_15 ⟨(Nat.le_of_ble_eq_true rfl), (Nat.le_of_ble_eq_true rfl)⟩) hS (fun q _ h => hF_1 q h) hF_1 (fun r_1 u_1 t_1 H1 locs ht_1 hvm_1 hw_1 hB_1 hz_1 hk_1 hS1 => ?_)
  obtain ⟨hP, hK, hD⟩ := z_back (wc := [(qu, .inr (1, [.int 0, .ref eu, .int 0]))]) (wr := [(m0, .inr (10, [.int th, .ref qu, .ref qs, .ref qc, .ref qp, .int 0, .int (-1), .int 2147483647, .ref qt]))]) (w1 := [(qu, .inr (1, [.int 0, .ref eu, .int 0]))]) (tr := []) hP hK hD [1] [0] rfl rfl rfl (by decide) ht_1 hvm_1 hk_1 hF_1 [] rfl hB_1
  have hS := hS1
  have hP : va_P D vwCl [(m0, .inr (10, [.int th, .ref qu, .ref qs, .ref qc, .ref qp, .int 0, .int (-1), .int 2147483647, .ref qt])), (qu, .inr (1, [.int 0, .ref eu, .int 0]))] H1 := hP
  have hD : va_D A [(m0, .inr (10, [.int th, .ref qu, .ref qs, .ref qc, .ref qp, .int 0, .int (-1), .int 2147483647, .ref qt])), (qu, .inr (1, [.int 0, .ref eu, .int 0]))] := hD
  have hK : va_K D vwCl [] s := hK
  clear hS1
  obtain rfl : r_1 = 0 := hw_1
  refine lv_icmp_ge (tgt := 84) hx hb dX8_goes_18 (by decide) (fun c_2 => ?_) (fun c_2 => absurd (by decide) c_2)
  refine lv_iload hx hb dX8_goes_84 (lv_at hl 2 rfl) ?_
  refine lv_if_eq (tgt := 97) hx hb dX8_goes_86 (by decide) (fun c_3 => absurd c_3 (by decide)) (fun c_3 => ?_)
  refine lv_aload_n hx hb dX8_goes_89 rfl (lv_at hl 3 rfl) ?_
  refine lv_iload_n hx hb dX8_goes_90 rfl (lv_at hl 4 rfl) ?_
  refine lv_aload_n hx hb dX8_goes_91 rfl (lv_at hl 5 rfl) ?_
  refine lv_aload_n hx hb dX8_goes_92 rfl (lv_at hl 6 rfl) ?_
  obtain ⟨hb_4, hc_4⟩ := z_call (wc := [(m0, .inr (10, [.int th, .ref qu, .ref qs, .ref qc, .ref qp, .int 0, .int (-1), .int 2147483647, .ref qt])), (qu, .inr (1, [.int 0, .ref eu, .int 0]))]) (tc := []) ([.ref m0, .int 0, .ref qe, .ref qt]) hP hK hD hS hA hE hX [0, 1] rfl rfl [] rfl
  have hF_4 := va_free (wc := [(m0, .inr (10, [.int th, .ref qu, .ref qs, .ref qc, .ref qp, .int 0, .int (-1), .int 2147483647, .ref qt])), (qu, .inr (1, [.int 0, .ref eu, .int 0]))]) hD hS hA [0, 1] rfl
  refine va_callv (va_runV (As := [.int 0, .ref qe, .ref qt]) (rest := []) ⟨hx, hb, hml, hown, hts⟩ (g_X8_takes l D m0 qu qs qc qp th eu qe qt _ ) (z_cV 3 hE zw_1697 zw_1699 zw_87 zw_96 zw_1700 rfl rfl rfl (by decide +kernel) ⟨(Nat.le_of_ble_eq_true rfl), (Nat.le_of_ble_eq_true rfl)⟩) ⟨hb_4, va_recv hK hP (ci := 10) (q0 := 0) rfl rfl, hc_4⟩ rfl rfl hl.1 rfl (lv_room (Nat.le_of_ble_eq_true rfl)) dX8_goes_93 ⟨(Nat.le_of_ble_eq_true rfl), (Nat.le_of_ble_eq_true rfl)⟩) hS (fun q _ h => hF_4 q h) hF_4 (fun u_4 t_4 H1 locs ht_4 hvm_4 hw_4 hB_4 hz_4 hk_4 hS1 => ?_)
  obtain ⟨hP, hK, hD⟩ := z_back (wc := [(m0, .inr (10, [.int th, .ref qu, .ref qs, .ref qc, .ref qp, .int 0, .int (-1), .int 2147483647, .ref qt])), (qu, .inr (1, [.int 0, .ref eu, .int 0]))]) (wr := []) (w1 := [(m0, .inr (10, [.int th, .ref qu, .ref qs, .ref qc, .ref qp, .int 0, .int (-1), .int 0, .ref qt])), (qu, .inr (1, [.int 0, .ref eu, .int 0]))]) (tr := []) hP hK hD [0, 1] [] rfl rfl rfl (by decide) ht_4 hvm_4 hk_4 hF_4 [] rfl hB_4
  have hS := hS1
  have hP : va_P D vwCl [(m0, .inr (10, [.int th, .ref qu, .ref qs, .ref qc, .ref qp, .int 0, .int (-1), .int 0, .ref qt])), (qu, .inr (1, [.int 0, .ref eu, .int 0]))] H1 := hP
  have hD : va_D A [(m0, .inr (10, [.int th, .ref qu, .ref qs, .ref qc, .ref qp, .int 0, .int (-1), .int 0, .ref qt])), (qu, .inr (1, [.int 0, .ref eu, .int 0]))] := hD
  have hK : va_K D vwCl [] s := hK
  clear hS1
  exact W.vret hx hb hr (fun t ht hW => ⟨⟨(), rfl, trivial, z_end hP hK hD [0, 1] rfl rfl [] rfl ht hW.alike⟩, hS.F ht⟩) hS.2.2 dX8_goes_96
theorem dX8_programmes_0 : decode cX8_programmes 0 = .ok (.bipush 10, 2) := by decide +kernel
theorem dX8_programmes_2 : decode cX8_programmes 2 = .ok (.newarray .int, 2) := by decide +kernel
theorem dX8_programmes_4 : decode cX8_programmes 4 = .ok (.astore_n 1, 1) := by decide +kernel
theorem dX8_programmes_5 : decode cX8_programmes 5 = .ok (.bipush 10, 2) := by decide +kernel
theorem dX8_programmes_7 : decode cX8_programmes 7 = .ok (.newarray .int, 2) := by decide +kernel
theorem dX8_programmes_9 : decode cX8_programmes 9 = .ok (.astore_n 2, 1) := by decide +kernel
theorem dX8_programmes_10 : decode cX8_programmes 10 = .ok (.iconst 0, 1) := by decide +kernel
theorem dX8_programmes_11 : decode cX8_programmes 11 = .ok (.istore_n 3, 1) := by decide +kernel
theorem dX8_programmes_12 : decode cX8_programmes 12 = .ok (.iload_n 3, 1) := by decide +kernel
theorem dX8_programmes_13 : decode cX8_programmes 13 = .ok (.bipush 10, 2) := by decide +kernel
theorem dX8_programmes_15 : decode cX8_programmes 15 = .ok (.if_icmp .ge 42, 3) := by decide +kernel
theorem dX8_programmes_18 : decode cX8_programmes 18 = .ok (.aload_n 1, 1) := by decide +kernel
theorem dX8_programmes_19 : decode cX8_programmes 19 = .ok (.iload_n 3, 1) := by decide +kernel
theorem dX8_programmes_20 : decode cX8_programmes 20 = .ok (.aload_n 0, 1) := by decide +kernel
theorem dX8_programmes_21 : decode cX8_programmes 21 = .ok (.iload_n 3, 1) := by decide +kernel
theorem dX8_programmes_22 : decode cX8_programmes 22 = .ok (.invokevirtual 74, 3) := by decide +kernel
theorem zw_1243 : Cond.methodLink RX8 74 yX8_isOn ∈ z_Ts := z_m 1243 (by decide +kernel) (by decide +kernel)
theorem zw_1245 : Cond.instanceMethod yX8_isOn ∈ z_Ts := z_m 1245 (by decide +kernel) (by decide +kernel)
theorem zw_63 : Cond.selects RX8 yX8_isOn yX8_isOn ∈ z_Ts := z_m 63 (by decide +kernel) (by decide +kernel)
theorem zw_1246 : Cond.code yX8_isOn cX8_isOn 2 (some .boolean) ∈ z_Ts := z_m 1246 (by decide +kernel) (by decide +kernel)
theorem dX8_programmes_25 : decode cX8_programmes 25 = .ok (.ifCond .eq 20, 3) := by decide +kernel
theorem dX8_programmes_45 : decode cX8_programmes 45 = .ok (.iconst 0, 1) := by decide +kernel
theorem dX8_programmes_46 : decode cX8_programmes 46 = .ok (.iastore, 1) := by decide +kernel
theorem dX8_programmes_47 : decode cX8_programmes 47 = .ok (.aload_n 2, 1) := by decide +kernel
theorem dX8_programmes_48 : decode cX8_programmes 48 = .ok (.iload_n 3, 1) := by decide +kernel
theorem dX8_programmes_49 : decode cX8_programmes 49 = .ok (.iconst (-1), 1) := by decide +kernel
theorem dX8_programmes_50 : decode cX8_programmes 50 = .ok (.iastore, 1) := by decide +kernel
theorem dX8_programmes_51 : decode cX8_programmes 51 = .ok (.iinc 3 1, 3) := by decide +kernel
theorem dX8_programmes_54 : decode cX8_programmes 54 = .ok (.goto (-42), 3) := by decide +kernel
theorem dX8_programmes_57 : decode cX8_programmes 57 = .ok (.aload_n 0, 1) := by decide +kernel
theorem dX8_programmes_58 : decode cX8_programmes 58 = .ok (.ldc_w 282, 3) := by decide +kernel
theorem zw_1692 : Cond.constant RX8 282 2147483647 ∈ z_Ts := z_m 1692 (by decide +kernel) (by decide +kernel)
theorem dX8_programmes_61 : decode cX8_programmes 61 = .ok (.putfield 286, 3) := by decide +kernel
theorem dX8_programmes_64 : decode cX8_programmes 64 = .ok (.aload_n 0, 1) := by decide +kernel
theorem dX8_programmes_65 : decode cX8_programmes 65 = .ok (.aload_n 2, 1) := by decide +kernel
theorem dX8_programmes_66 : decode cX8_programmes 66 = .ok (.putfield 289, 3) := by decide +kernel
theorem dX8_programmes_69 : decode cX8_programmes 69 = .ok (.aload_n 0, 1) := by decide +kernel
theorem dX8_programmes_70 : decode cX8_programmes 70 = .ok (.iconst 0, 1) := by decide +kernel
theorem dX8_programmes_71 : decode cX8_programmes 71 = .ok (.aload_n 1, 1) := by decide +kernel
theorem dX8_programmes_72 : decode cX8_programmes 72 = .ok (.aload_n 2, 1) := by decide +kernel
theorem dX8_programmes_73 : decode cX8_programmes 73 = .ok (.invokevirtual 283, 3) := by decide +kernel
theorem zw_1693 : Cond.methodLink RX8 283 yX8_goes ∈ z_Ts := z_m 1693 (by decide +kernel) (by decide +kernel)
theorem zw_1695 : Cond.instanceMethod yX8_goes ∈ z_Ts := z_m 1695 (by decide +kernel) (by decide +kernel)
theorem zw_86 : Cond.selects RX8 yX8_goes yX8_goes ∈ z_Ts := z_m 86 (by decide +kernel) (by decide +kernel)
theorem zw_1696 : Cond.code yX8_goes cX8_goes 10 none ∈ z_Ts := z_m 1696 (by decide +kernel) (by decide +kernel)
theorem dX8_programmes_76 : decode cX8_programmes 76 = .ok (.return_, 1) := by decide +kernel
set_option maxHeartbeats 4000000 in
set_option maxRecDepth 100000 in
theorem g_X8_programmes (l : Launch) (D : va_G) (m0 : Nat) (qu : Nat) (qs : Nat) (qc : Nat) (qp : Nat) (th : Int32) (eu : Nat) (sz : Nat)  : Met l yX8_programmes [Cond.code yX8_programmes cX8_programmes 4 none] ({ frames := 4, cells := 2, slots := 20, locals := 140 }) (z_Pc D [.ref m0] [(m0, .inr (10, [.int th, .ref qu, .ref qs, .ref qc, .ref qp, .int 0, .int (-1), .int 0, .null])), (qu, .inr (1, [.int 0, .ref eu, .int 0]))] [] sz) (va_Qv (fun _ : Unit => True) (fun _ t => ∃ qb : Nat, z_W D [(m0, .inr (10, [.int th, .ref qu, .ref qs, .ref qc, .ref qp, .int 0, .int (-1), .int 0, .ref qb])), (qu, .inr (1, [.int 0, .ref eu, .int 0]))] [] (va_A [(m0, .inr (10, [.int th, .ref qu, .ref qs, .ref qc, .ref qp, .int 0, .int (-1), .int 0, .null])), (qu, .inr (1, [.int 0, .ref eu, .int 0]))] sz) t) (va_A [(m0, .inr (10, [.int th, .ref qu, .ref qs, .ref qc, .ref qp, .int 0, .int (-1), .int 0, .null])), (qu, .inr (1, [.int 0, .ref eu, .int 0]))] sz)) 2 20 (va_A [(m0, .inr (10, [.int th, .ref qu, .ref qs, .ref qc, .ref qp, .int 0, .int (-1), .int 0, .null])), (qu, .inr (1, [.int 0, .ref eu, .int 0]))] sz) := by
  refine Met.ofW (cc := cX8_programmes) (maxL := 4) (ret := none) (by decide +kernel) rfl ?_
  intro p e s m args below meth c s₁ B hml hv
  obtain ⟨rfl, hsz, hP, hK, hD0, hE, hX0⟩ := hv
  have hx := B.exec
  have hb := B.bytes
  have hr := B.returns
  have hts := z_E.ts (args := [.ref m0].toArray) hE
  have hown : s.vm.findClass RX8 = some m.cls := findClass_of_methodNamed B.named
  have hlocks := B.notSynchronized
  subst hsz
  have hD := hD0.self (sz := s.heap.size)
  generalize hAe : va_A [(m0, .inr (10, [.int th, .ref qu, .ref qs, .ref qc, .ref qp, .int 0, .int (-1), .int 0, .null])), (qu, .inr (1, [.int 0, .ref eu, .int 0]))] s.heap.size = A at hD hX0 ⊢
  have hX : z_X D A s s.heap := hX0
  have hA : ∀ q : Nat, s.heap.size ≤ q → A q := fun q h => by rw [← hAe]; exact Or.inr h
  have hS : va_S A s.heap s.heap [] := va_S.rf
  have hP : va_P D vwCl [(m0, .inr (10, [.int th, .ref qu, .ref qs, .ref qc, .ref qp, .int 0, .int (-1), .int 0, .null])), (qu, .inr (1, [.int 0, .ref eu, .int 0]))] s.heap := hP
  have hl := lv_entry ([.ref m0]) (n := 4) (Nat.le_of_ble_eq_true rfl)
  rw [lg_entry_eq]
  generalize (lg_sl ([.ref m0]) ++ List.replicate (4 - (lg_sl ([.ref m0])).length) Slot.unset).toArray = ls at hl ⊢
  have hl : lv_has ls 4 [(0, .ref m0)] := hl
  skip
  refine lv_bipush (v := 10) hx hb dX8_programmes_0 (by decide) ?_
  refine va_newa (atype := .int) (ty := .int) (N' := 10) (a0 := (10, .inl (fun _ => 0))) hx hb (hts _ zw_170) rfl hK hP hD hS hA (fun cA => rfl) (by decide) (by decide) (by decide) (Nat.le_of_ble_eq_true rfl) (Nat.le_of_ble_eq_true rfl) dX8_programmes_2 (fun q_1 cA_2 H hK hP hD hS => ?_)
  have hP : va_P D vwCl [(m0, .inr (10, [.int th, .ref qu, .ref qs, .ref qc, .ref qp, .int 0, .int (-1), .int 0, .null])), (qu, .inr (1, [.int 0, .ref eu, .int 0])), (q_1, .inl (cA_2, 10, .inl (fun _ => 0)))] H := hP
  have hD : va_D A [(m0, .inr (10, [.int th, .ref qu, .ref qs, .ref qc, .ref qp, .int 0, .int (-1), .int 0, .null])), (qu, .inr (1, [.int 0, .ref eu, .int 0])), (q_1, .inl (cA_2, 10, .inl (fun _ => 0)))] := hD
  have hK : va_K D vwCl [(cA_2, .int)] s := hK
  refine lv_astore_n (lv' := [(1, .ref q_1), (0, .ref m0)]) hx hb dX8_programmes_4 rfl hl (by decide) rfl (fun ls hl => ?_)
  refine lv_bipush (v := 10) hx hb dX8_programmes_5 (by decide) ?_
  refine va_newa (atype := .int) (ty := .int) (N' := 10) (a0 := (10, .inl (fun _ => 0))) hx hb (hts _ zw_170) rfl hK hP hD hS hA (fun cA => rfl) (by decide) (by decide) (by decide) (Nat.le_of_ble_eq_true rfl) (Nat.le_of_ble_eq_true rfl) dX8_programmes_7 (fun q_3 cA_4 H hK hP hD hS => ?_)
  have hP : va_P D vwCl [(m0, .inr (10, [.int th, .ref qu, .ref qs, .ref qc, .ref qp, .int 0, .int (-1), .int 0, .null])), (qu, .inr (1, [.int 0, .ref eu, .int 0])), (q_1, .inl (cA_2, 10, .inl (fun _ => 0))), (q_3, .inl (cA_4, 10, .inl (fun _ => 0)))] H := hP
  have hD : va_D A [(m0, .inr (10, [.int th, .ref qu, .ref qs, .ref qc, .ref qp, .int 0, .int (-1), .int 0, .null])), (qu, .inr (1, [.int 0, .ref eu, .int 0])), (q_1, .inl (cA_2, 10, .inl (fun _ => 0))), (q_3, .inl (cA_4, 10, .inl (fun _ => 0)))] := hD
  have hK : va_K D vwCl [(cA_2, .int), (cA_4, .int)] s := hK
  refine lv_astore_n (lv' := [(2, .ref q_3), (1, .ref q_1), (0, .ref m0)]) hx hb dX8_programmes_9 rfl hl (by decide) rfl (fun ls hl => ?_)
  refine lv_iconst (v := 0) hx hb dX8_programmes_10 (by decide) ?_
  refine lv_istore_n (lv' := [(3, .int 0), (2, .ref q_3), (1, .ref q_1), (0, .ref m0)]) hx hb dX8_programmes_11 rfl hl (by decide) rfl (fun ls hl => ?_)
  refine lv_iload_n hx hb dX8_programmes_12 rfl (lv_at hl 0 rfl) ?_
  refine lv_bipush (v := 10) hx hb dX8_programmes_13 (by decide) ?_
  refine lv_icmp_ge (tgt := 57) hx hb dX8_programmes_15 (by decide) (fun c_5 => absurd c_5 (by decide)) (fun c_5 => ?_)
  refine lv_aload_n hx hb dX8_programmes_18 rfl (lv_at hl 2 rfl) ?_
  refine lv_iload_n hx hb dX8_programmes_19 rfl (lv_at hl 0 rfl) ?_
  refine lv_aload_n hx hb dX8_programmes_20 rfl (lv_at hl 3 rfl) ?_
  refine lv_iload_n hx hb dX8_programmes_21 rfl (lv_at hl 0 rfl) ?_
  obtain ⟨hb_6, hc_6⟩ := z_call (wc := [(m0, .inr (10, [.int th, .ref qu, .ref qs, .ref qc, .ref qp, .int 0, .int (-1), .int 0, .null])), (qu, .inr (1, [.int 0, .ref eu, .int 0]))]) (tc := []) ([.ref m0, .int 0]) hP hK hD hS hA hE hX [0, 1] rfl rfl [] rfl
  have hF_6 := va_free (wc := [(m0, .inr (10, [.int th, .ref qu, .ref qs, .ref qc, .ref qp, .int 0, .int (-1), .int 0, .null])), (qu, .inr (1, [.int 0, .ref eu, .int 0]))]) hD hS hA [0, 1] rfl
  refine va_calli (va_runV (As := [.int 0]) (rest := [.int 0, .ref q_1]) ⟨hx, hb, hml, hown, hts⟩ (g_X8_isOn l D m0 qu qs qc qp th eu 0 _ ) (z_cV 1 hE zw_1243 zw_1245 zw_63 zw_96 zw_1246 rfl rfl rfl (by decide +kernel) ⟨(Nat.le_of_ble_eq_true rfl), (Nat.le_of_ble_eq_true rfl)⟩) ⟨hb_6, va_recv hK hP (ci := 10) (q0 := 0) rfl rfl, hc_6⟩ rfl rfl hl.1 rfl (lv_room (Nat.le_of_ble_eq_true rfl)) dX8_programmes_22 ⟨(Nat.le_of_ble_eq_true rfl), (Nat.le_of_ble_eq_true rfl)⟩) hS (fun q _ h => hF_6 q h) hF_6 (fun r_6 u_6 t_6 H1 locs ht_6 hvm_6 hw_6 hB_6 hz_6 hk_6 hS1 => ?_)
  obtain ⟨hP, hK, hD⟩ := z_back (wc := [(m0, .inr (10, [.int th, .ref qu, .ref qs, .ref qc, .ref qp, .int 0, .int (-1), .int 0, .null])), (qu, .inr (1, [.int 0, .ref eu, .int 0]))]) (wr := [(q_1, .inl (cA_2, 10, .inl (fun _ => 0))), (q_3, .inl (cA_4, 10, .inl (fun _ => 0)))]) (w1 := [(m0, .inr (10, [.int th, .ref qu, .ref qs, .ref qc, .ref qp, .int 0, .int (-1), .int 0, .null])), (qu, .inr (1, [.int 0, .ref eu, .int 0]))]) (tr := [(cA_2, .int), (cA_4, .int)]) hP hK hD [0, 1] [2, 3] rfl rfl rfl (by decide) ht_6 hvm_6 hk_6 hF_6 [0, 1] rfl hB_6
  have hS := hS1
  have hP : va_P D vwCl [(q_1, .inl (cA_2, 10, .inl (fun _ => 0))), (q_3, .inl (cA_4, 10, .inl (fun _ => 0))), (m0, .inr (10, [.int th, .ref qu, .ref qs, .ref qc, .ref qp, .int 0, .int (-1), .int 0, .null])), (qu, .inr (1, [.int 0, .ref eu, .int 0]))] H1 := hP
  have hD : va_D A [(q_1, .inl (cA_2, 10, .inl (fun _ => 0))), (q_3, .inl (cA_4, 10, .inl (fun _ => 0))), (m0, .inr (10, [.int th, .ref qu, .ref qs, .ref qc, .ref qp, .int 0, .int (-1), .int 0, .null])), (qu, .inr (1, [.int 0, .ref eu, .int 0]))] := hD
  have hK : va_K D vwCl [(cA_2, .int), (cA_4, .int)] s := hK
  clear hS1
  obtain rfl : r_6 = 0 := hw_6
  refine lv_if_eq (tgt := 45) hx hb dX8_programmes_25 (by decide) (fun c_7 => ?_) (fun c_7 => absurd (by decide) c_7)
  refine lv_iconst (v := 0) hx hb dX8_programmes_45 (by decide) ?_
  refine va_iast hx hb hK hP hD hS 0 0 rfl rfl (i := 0) (by unfold vp_in; decide) dX8_programmes_46 (fun H locs hP hD hS => ?_)
  have hP : va_P D vwCl [(q_1, .inl (cA_2, 10, .inl (upd (fun _ => 0) (0 : Int32).toNatClampNeg 0))), (q_3, .inl (cA_4, 10, .inl (fun _ => 0))), (m0, .inr (10, [.int th, .ref qu, .ref qs, .ref qc, .ref qp, .int 0, .int (-1), .int 0, .null])), (qu, .inr (1, [.int 0, .ref eu, .int 0]))] H := hP
  have hD : va_D A [(q_1, .inl (cA_2, 10, .inl (upd (fun _ => 0) (0 : Int32).toNatClampNeg 0))), (q_3, .inl (cA_4, 10, .inl (fun _ => 0))), (m0, .inr (10, [.int th, .ref qu, .ref qs, .ref qc, .ref qp, .int 0, .int (-1), .int 0, .null])), (qu, .inr (1, [.int 0, .ref eu, .int 0]))] := hD
  refine lv_aload_n hx hb dX8_programmes_47 rfl (lv_at hl 1 rfl) ?_
  refine lv_iload_n hx hb dX8_programmes_48 rfl (lv_at hl 0 rfl) ?_
  refine lv_iconst (v := -1) hx hb dX8_programmes_49 (by decide) ?_
  refine va_iast hx hb hK hP hD hS 1 1 rfl rfl (i := 0) (by unfold vp_in; decide) dX8_programmes_50 (fun H locs hP hD hS => ?_)
  have hP : va_P D vwCl [(q_1, .inl (cA_2, 10, .inl (upd (fun _ => 0) (0 : Int32).toNatClampNeg 0))), (q_3, .inl (cA_4, 10, .inl (upd (fun _ => 0) (0 : Int32).toNatClampNeg (-1)))), (m0, .inr (10, [.int th, .ref qu, .ref qs, .ref qc, .ref qp, .int 0, .int (-1), .int 0, .null])), (qu, .inr (1, [.int 0, .ref eu, .int 0]))] H := hP
  have hD : va_D A [(q_1, .inl (cA_2, 10, .inl (upd (fun _ => 0) (0 : Int32).toNatClampNeg 0))), (q_3, .inl (cA_4, 10, .inl (upd (fun _ => 0) (0 : Int32).toNatClampNeg (-1)))), (m0, .inr (10, [.int th, .ref qu, .ref qs, .ref qc, .ref qp, .int 0, .int (-1), .int 0, .null])), (qu, .inr (1, [.int 0, .ref eu, .int 0]))] := hD
  refine lv_iinc (v := 1) (lv' := [(3, .int 1), (2, .ref q_3), (1, .ref q_1), (0, .ref m0)]) hx hb dX8_programmes_51 hl (k := 0) rfl (by decide) (by decide) rfl (fun ls hl => ?_)
  refine lv_goto (tgt := 12) hx hb dX8_programmes_54 (by decide) ?_
  refine lv_iload_n hx hb dX8_programmes_12 rfl (lv_at hl 0 rfl) ?_
  refine lv_bipush (v := 10) hx hb dX8_programmes_13 (by decide) ?_
  refine lv_icmp_ge (tgt := 57) hx hb dX8_programmes_15 (by decide) (fun c_8 => absurd c_8 (by decide)) (fun c_8 => ?_)
  refine lv_aload_n hx hb dX8_programmes_18 rfl (lv_at hl 2 rfl) ?_
  refine lv_iload_n hx hb dX8_programmes_19 rfl (lv_at hl 0 rfl) ?_
  refine lv_aload_n hx hb dX8_programmes_20 rfl (lv_at hl 3 rfl) ?_
  refine lv_iload_n hx hb dX8_programmes_21 rfl (lv_at hl 0 rfl) ?_
  obtain ⟨hb_9, hc_9⟩ := z_call (wc := [(m0, .inr (10, [.int th, .ref qu, .ref qs, .ref qc, .ref qp, .int 0, .int (-1), .int 0, .null])), (qu, .inr (1, [.int 0, .ref eu, .int 0]))]) (tc := []) ([.ref m0, .int 1]) hP hK hD hS hA hE hX [2, 3] rfl rfl [] rfl
  have hF_9 := va_free (wc := [(m0, .inr (10, [.int th, .ref qu, .ref qs, .ref qc, .ref qp, .int 0, .int (-1), .int 0, .null])), (qu, .inr (1, [.int 0, .ref eu, .int 0]))]) hD hS hA [2, 3] rfl
  refine va_calli (va_runV (As := [.int 1]) (rest := [.int 1, .ref q_1]) ⟨hx, hb, hml, hown, hts⟩ (g_X8_isOn l D m0 qu qs qc qp th eu 1 _ ) (z_cV 1 hE zw_1243 zw_1245 zw_63 zw_96 zw_1246 rfl rfl rfl (by decide +kernel) ⟨(Nat.le_of_ble_eq_true rfl), (Nat.le_of_ble_eq_true rfl)⟩) ⟨hb_9, va_recv hK hP (ci := 10) (q0 := 2) rfl rfl, hc_9⟩ rfl rfl hl.1 rfl (lv_room (Nat.le_of_ble_eq_true rfl)) dX8_programmes_22 ⟨(Nat.le_of_ble_eq_true rfl), (Nat.le_of_ble_eq_true rfl)⟩) hS (fun q _ h => hF_9 q h) hF_9 (fun r_9 u_9 t_9 H1 locs ht_9 hvm_9 hw_9 hB_9 hz_9 hk_9 hS1 => ?_)
  obtain ⟨hP, hK, hD⟩ := z_back (wc := [(m0, .inr (10, [.int th, .ref qu, .ref qs, .ref qc, .ref qp, .int 0, .int (-1), .int 0, .null])), (qu, .inr (1, [.int 0, .ref eu, .int 0]))]) (wr := [(q_1, .inl (cA_2, 10, .inl (upd (fun _ => 0) (0 : Int32).toNatClampNeg 0))), (q_3, .inl (cA_4, 10, .inl (upd (fun _ => 0) (0 : Int32).toNatClampNeg (-1))))]) (w1 := [(m0, .inr (10, [.int th, .ref qu, .ref qs, .ref qc, .ref qp, .int 0, .int (-1), .int 0, .null])), (qu, .inr (1, [.int 0, .ref eu, .int 0]))]) (tr := [(cA_2, .int), (cA_4, .int)]) hP hK hD [2, 3] [0, 1] rfl rfl rfl (by decide) ht_9 hvm_9 hk_9 hF_9 [0, 1] rfl hB_9
  have hS := hS1
  have hP : va_P D vwCl [(q_1, .inl (cA_2, 10, .inl (upd (fun _ => 0) (0 : Int32).toNatClampNeg 0))), (q_3, .inl (cA_4, 10, .inl (upd (fun _ => 0) (0 : Int32).toNatClampNeg (-1)))), (m0, .inr (10, [.int th, .ref qu, .ref qs, .ref qc, .ref qp, .int 0, .int (-1), .int 0, .null])), (qu, .inr (1, [.int 0, .ref eu, .int 0]))] H1 := hP
  have hD : va_D A [(q_1, .inl (cA_2, 10, .inl (upd (fun _ => 0) (0 : Int32).toNatClampNeg 0))), (q_3, .inl (cA_4, 10, .inl (upd (fun _ => 0) (0 : Int32).toNatClampNeg (-1)))), (m0, .inr (10, [.int th, .ref qu, .ref qs, .ref qc, .ref qp, .int 0, .int (-1), .int 0, .null])), (qu, .inr (1, [.int 0, .ref eu, .int 0]))] := hD
  have hK : va_K D vwCl [(cA_2, .int), (cA_4, .int)] s := hK
  clear hS1
  obtain rfl : r_9 = 0 := hw_9
  refine lv_if_eq (tgt := 45) hx hb dX8_programmes_25 (by decide) (fun c_10 => ?_) (fun c_10 => absurd (by decide) c_10)
  refine lv_iconst (v := 0) hx hb dX8_programmes_45 (by decide) ?_
  refine va_iast hx hb hK hP hD hS 0 0 rfl rfl (i := 1) (by unfold vp_in; decide) dX8_programmes_46 (fun H locs hP hD hS => ?_)
  have hP : va_P D vwCl [(q_1, .inl (cA_2, 10, .inl (upd (upd (fun _ => 0) (0 : Int32).toNatClampNeg 0) (1 : Int32).toNatClampNeg 0))), (q_3, .inl (cA_4, 10, .inl (upd (fun _ => 0) (0 : Int32).toNatClampNeg (-1)))), (m0, .inr (10, [.int th, .ref qu, .ref qs, .ref qc, .ref qp, .int 0, .int (-1), .int 0, .null])), (qu, .inr (1, [.int 0, .ref eu, .int 0]))] H := hP
  have hD : va_D A [(q_1, .inl (cA_2, 10, .inl (upd (upd (fun _ => 0) (0 : Int32).toNatClampNeg 0) (1 : Int32).toNatClampNeg 0))), (q_3, .inl (cA_4, 10, .inl (upd (fun _ => 0) (0 : Int32).toNatClampNeg (-1)))), (m0, .inr (10, [.int th, .ref qu, .ref qs, .ref qc, .ref qp, .int 0, .int (-1), .int 0, .null])), (qu, .inr (1, [.int 0, .ref eu, .int 0]))] := hD
  refine lv_aload_n hx hb dX8_programmes_47 rfl (lv_at hl 1 rfl) ?_
  refine lv_iload_n hx hb dX8_programmes_48 rfl (lv_at hl 0 rfl) ?_
  refine lv_iconst (v := -1) hx hb dX8_programmes_49 (by decide) ?_
  refine va_iast hx hb hK hP hD hS 1 1 rfl rfl (i := 1) (by unfold vp_in; decide) dX8_programmes_50 (fun H locs hP hD hS => ?_)
  have hP : va_P D vwCl [(q_1, .inl (cA_2, 10, .inl (upd (upd (fun _ => 0) (0 : Int32).toNatClampNeg 0) (1 : Int32).toNatClampNeg 0))), (q_3, .inl (cA_4, 10, .inl (upd (upd (fun _ => 0) (0 : Int32).toNatClampNeg (-1)) (1 : Int32).toNatClampNeg (-1)))), (m0, .inr (10, [.int th, .ref qu, .ref qs, .ref qc, .ref qp, .int 0, .int (-1), .int 0, .null])), (qu, .inr (1, [.int 0, .ref eu, .int 0]))] H := hP
  have hD : va_D A [(q_1, .inl (cA_2, 10, .inl (upd (upd (fun _ => 0) (0 : Int32).toNatClampNeg 0) (1 : Int32).toNatClampNeg 0))), (q_3, .inl (cA_4, 10, .inl (upd (upd (fun _ => 0) (0 : Int32).toNatClampNeg (-1)) (1 : Int32).toNatClampNeg (-1)))), (m0, .inr (10, [.int th, .ref qu, .ref qs, .ref qc, .ref qp, .int 0, .int (-1), .int 0, .null])), (qu, .inr (1, [.int 0, .ref eu, .int 0]))] := hD
  refine lv_iinc (v := 2) (lv' := [(3, .int 2), (2, .ref q_3), (1, .ref q_1), (0, .ref m0)]) hx hb dX8_programmes_51 hl (k := 0) rfl (by decide) (by decide) rfl (fun ls hl => ?_)
  refine lv_goto (tgt := 12) hx hb dX8_programmes_54 (by decide) ?_
  refine lv_iload_n hx hb dX8_programmes_12 rfl (lv_at hl 0 rfl) ?_
  refine lv_bipush (v := 10) hx hb dX8_programmes_13 (by decide) ?_
  refine lv_icmp_ge (tgt := 57) hx hb dX8_programmes_15 (by decide) (fun c_11 => absurd c_11 (by decide)) (fun c_11 => ?_)
  refine lv_aload_n hx hb dX8_programmes_18 rfl (lv_at hl 2 rfl) ?_
  refine lv_iload_n hx hb dX8_programmes_19 rfl (lv_at hl 0 rfl) ?_
  refine lv_aload_n hx hb dX8_programmes_20 rfl (lv_at hl 3 rfl) ?_
  refine lv_iload_n hx hb dX8_programmes_21 rfl (lv_at hl 0 rfl) ?_
  obtain ⟨hb_12, hc_12⟩ := z_call (wc := [(m0, .inr (10, [.int th, .ref qu, .ref qs, .ref qc, .ref qp, .int 0, .int (-1), .int 0, .null])), (qu, .inr (1, [.int 0, .ref eu, .int 0]))]) (tc := []) ([.ref m0, .int 2]) hP hK hD hS hA hE hX [2, 3] rfl rfl [] rfl
  have hF_12 := va_free (wc := [(m0, .inr (10, [.int th, .ref qu, .ref qs, .ref qc, .ref qp, .int 0, .int (-1), .int 0, .null])), (qu, .inr (1, [.int 0, .ref eu, .int 0]))]) hD hS hA [2, 3] rfl
  refine va_calli (va_runV (As := [.int 2]) (rest := [.int 2, .ref q_1]) ⟨hx, hb, hml, hown, hts⟩ (g_X8_isOn l D m0 qu qs qc qp th eu 2 _ ) (z_cV 1 hE zw_1243 zw_1245 zw_63 zw_96 zw_1246 rfl rfl rfl (by decide +kernel) ⟨(Nat.le_of_ble_eq_true rfl), (Nat.le_of_ble_eq_true rfl)⟩) ⟨hb_12, va_recv hK hP (ci := 10) (q0 := 2) rfl rfl, hc_12⟩ rfl rfl hl.1 rfl (lv_room (Nat.le_of_ble_eq_true rfl)) dX8_programmes_22 ⟨(Nat.le_of_ble_eq_true rfl), (Nat.le_of_ble_eq_true rfl)⟩) hS (fun q _ h => hF_12 q h) hF_12 (fun r_12 u_12 t_12 H1 locs ht_12 hvm_12 hw_12 hB_12 hz_12 hk_12 hS1 => ?_)
  obtain ⟨hP, hK, hD⟩ := z_back (wc := [(m0, .inr (10, [.int th, .ref qu, .ref qs, .ref qc, .ref qp, .int 0, .int (-1), .int 0, .null])), (qu, .inr (1, [.int 0, .ref eu, .int 0]))]) (wr := [(q_1, .inl (cA_2, 10, .inl (upd (upd (fun _ => 0) (0 : Int32).toNatClampNeg 0) (1 : Int32).toNatClampNeg 0))), (q_3, .inl (cA_4, 10, .inl (upd (upd (fun _ => 0) (0 : Int32).toNatClampNeg (-1)) (1 : Int32).toNatClampNeg (-1))))]) (w1 := [(m0, .inr (10, [.int th, .ref qu, .ref qs, .ref qc, .ref qp, .int 0, .int (-1), .int 0, .null])), (qu, .inr (1, [.int 0, .ref eu, .int 0]))]) (tr := [(cA_2, .int), (cA_4, .int)]) hP hK hD [2, 3] [0, 1] rfl rfl rfl (by decide) ht_12 hvm_12 hk_12 hF_12 [0, 1] rfl hB_12
  have hS := hS1
  have hP : va_P D vwCl [(q_1, .inl (cA_2, 10, .inl (upd (upd (fun _ => 0) (0 : Int32).toNatClampNeg 0) (1 : Int32).toNatClampNeg 0))), (q_3, .inl (cA_4, 10, .inl (upd (upd (fun _ => 0) (0 : Int32).toNatClampNeg (-1)) (1 : Int32).toNatClampNeg (-1)))), (m0, .inr (10, [.int th, .ref qu, .ref qs, .ref qc, .ref qp, .int 0, .int (-1), .int 0, .null])), (qu, .inr (1, [.int 0, .ref eu, .int 0]))] H1 := hP
  have hD : va_D A [(q_1, .inl (cA_2, 10, .inl (upd (upd (fun _ => 0) (0 : Int32).toNatClampNeg 0) (1 : Int32).toNatClampNeg 0))), (q_3, .inl (cA_4, 10, .inl (upd (upd (fun _ => 0) (0 : Int32).toNatClampNeg (-1)) (1 : Int32).toNatClampNeg (-1)))), (m0, .inr (10, [.int th, .ref qu, .ref qs, .ref qc, .ref qp, .int 0, .int (-1), .int 0, .null])), (qu, .inr (1, [.int 0, .ref eu, .int 0]))] := hD
  have hK : va_K D vwCl [(cA_2, .int), (cA_4, .int)] s := hK
  clear hS1
  obtain rfl : r_12 = 0 := hw_12
  refine lv_if_eq (tgt := 45) hx hb dX8_programmes_25 (by decide) (fun c_13 => ?_) (fun c_13 => absurd (by decide) c_13)
  refine lv_iconst (v := 0) hx hb dX8_programmes_45 (by decide) ?_
  refine va_iast hx hb hK hP hD hS 0 0 rfl rfl (i := 2) (by unfold vp_in; decide) dX8_programmes_46 (fun H locs hP hD hS => ?_)
  have hP : va_P D vwCl [(q_1, .inl (cA_2, 10, .inl (upd (upd (upd (fun _ => 0) (0 : Int32).toNatClampNeg 0) (1 : Int32).toNatClampNeg 0) (2 : Int32).toNatClampNeg 0))), (q_3, .inl (cA_4, 10, .inl (upd (upd (fun _ => 0) (0 : Int32).toNatClampNeg (-1)) (1 : Int32).toNatClampNeg (-1)))), (m0, .inr (10, [.int th, .ref qu, .ref qs, .ref qc, .ref qp, .int 0, .int (-1), .int 0, .null])), (qu, .inr (1, [.int 0, .ref eu, .int 0]))] H := hP
  have hD : va_D A [(q_1, .inl (cA_2, 10, .inl (upd (upd (upd (fun _ => 0) (0 : Int32).toNatClampNeg 0) (1 : Int32).toNatClampNeg 0) (2 : Int32).toNatClampNeg 0))), (q_3, .inl (cA_4, 10, .inl (upd (upd (fun _ => 0) (0 : Int32).toNatClampNeg (-1)) (1 : Int32).toNatClampNeg (-1)))), (m0, .inr (10, [.int th, .ref qu, .ref qs, .ref qc, .ref qp, .int 0, .int (-1), .int 0, .null])), (qu, .inr (1, [.int 0, .ref eu, .int 0]))] := hD
  refine lv_aload_n hx hb dX8_programmes_47 rfl (lv_at hl 1 rfl) ?_
  refine lv_iload_n hx hb dX8_programmes_48 rfl (lv_at hl 0 rfl) ?_
  refine lv_iconst (v := -1) hx hb dX8_programmes_49 (by decide) ?_
  refine va_iast hx hb hK hP hD hS 1 1 rfl rfl (i := 2) (by unfold vp_in; decide) dX8_programmes_50 (fun H locs hP hD hS => ?_)
  have hP : va_P D vwCl [(q_1, .inl (cA_2, 10, .inl (upd (upd (upd (fun _ => 0) (0 : Int32).toNatClampNeg 0) (1 : Int32).toNatClampNeg 0) (2 : Int32).toNatClampNeg 0))), (q_3, .inl (cA_4, 10, .inl (upd (upd (upd (fun _ => 0) (0 : Int32).toNatClampNeg (-1)) (1 : Int32).toNatClampNeg (-1)) (2 : Int32).toNatClampNeg (-1)))), (m0, .inr (10, [.int th, .ref qu, .ref qs, .ref qc, .ref qp, .int 0, .int (-1), .int 0, .null])), (qu, .inr (1, [.int 0, .ref eu, .int 0]))] H := hP
  have hD : va_D A [(q_1, .inl (cA_2, 10, .inl (upd (upd (upd (fun _ => 0) (0 : Int32).toNatClampNeg 0) (1 : Int32).toNatClampNeg 0) (2 : Int32).toNatClampNeg 0))), (q_3, .inl (cA_4, 10, .inl (upd (upd (upd (fun _ => 0) (0 : Int32).toNatClampNeg (-1)) (1 : Int32).toNatClampNeg (-1)) (2 : Int32).toNatClampNeg (-1)))), (m0, .inr (10, [.int th, .ref qu, .ref qs, .ref qc, .ref qp, .int 0, .int (-1), .int 0, .null])), (qu, .inr (1, [.int 0, .ref eu, .int 0]))] := hD
  refine lv_iinc (v := 3) (lv' := [(3, .int 3), (2, .ref q_3), (1, .ref q_1), (0, .ref m0)]) hx hb dX8_programmes_51 hl (k := 0) rfl (by decide) (by decide) rfl (fun ls hl => ?_)
  refine lv_goto (tgt := 12) hx hb dX8_programmes_54 (by decide) ?_
  refine lv_iload_n hx hb dX8_programmes_12 rfl (lv_at hl 0 rfl) ?_
  refine lv_bipush (v := 10) hx hb dX8_programmes_13 (by decide) ?_
  refine lv_icmp_ge (tgt := 57) hx hb dX8_programmes_15 (by decide) (fun c_14 => absurd c_14 (by decide)) (fun c_14 => ?_)
  refine lv_aload_n hx hb dX8_programmes_18 rfl (lv_at hl 2 rfl) ?_
  refine lv_iload_n hx hb dX8_programmes_19 rfl (lv_at hl 0 rfl) ?_
  refine lv_aload_n hx hb dX8_programmes_20 rfl (lv_at hl 3 rfl) ?_
  refine lv_iload_n hx hb dX8_programmes_21 rfl (lv_at hl 0 rfl) ?_
  obtain ⟨hb_15, hc_15⟩ := z_call (wc := [(m0, .inr (10, [.int th, .ref qu, .ref qs, .ref qc, .ref qp, .int 0, .int (-1), .int 0, .null])), (qu, .inr (1, [.int 0, .ref eu, .int 0]))]) (tc := []) ([.ref m0, .int 3]) hP hK hD hS hA hE hX [2, 3] rfl rfl [] rfl
  have hF_15 := va_free (wc := [(m0, .inr (10, [.int th, .ref qu, .ref qs, .ref qc, .ref qp, .int 0, .int (-1), .int 0, .null])), (qu, .inr (1, [.int 0, .ref eu, .int 0]))]) hD hS hA [2, 3] rfl
  refine va_calli (va_runV (As := [.int 3]) (rest := [.int 3, .ref q_1]) ⟨hx, hb, hml, hown, hts⟩ (g_X8_isOn l D m0 qu qs qc qp th eu 3 _ ) (z_cV 1 hE zw_1243 zw_1245 zw_63 zw_96 zw_1246 rfl rfl rfl (by decide +kernel) ⟨(Nat.le_of_ble_eq_true rfl), (Nat.le_of_ble_eq_true rfl)⟩) ⟨hb_15, va_recv hK hP (ci := 10) (q0 := 2) rfl rfl, hc_15⟩ rfl rfl hl.1 rfl (lv_room (Nat.le_of_ble_eq_true rfl)) dX8_programmes_22 ⟨(Nat.le_of_ble_eq_true rfl), (Nat.le_of_ble_eq_true rfl)⟩) hS (fun q _ h => hF_15 q h) hF_15 (fun r_15 u_15 t_15 H1 locs ht_15 hvm_15 hw_15 hB_15 hz_15 hk_15 hS1 => ?_)
  obtain ⟨hP, hK, hD⟩ := z_back (wc := [(m0, .inr (10, [.int th, .ref qu, .ref qs, .ref qc, .ref qp, .int 0, .int (-1), .int 0, .null])), (qu, .inr (1, [.int 0, .ref eu, .int 0]))]) (wr := [(q_1, .inl (cA_2, 10, .inl (upd (upd (upd (fun _ => 0) (0 : Int32).toNatClampNeg 0) (1 : Int32).toNatClampNeg 0) (2 : Int32).toNatClampNeg 0))), (q_3, .inl (cA_4, 10, .inl (upd (upd (upd (fun _ => 0) (0 : Int32).toNatClampNeg (-1)) (1 : Int32).toNatClampNeg (-1)) (2 : Int32).toNatClampNeg (-1))))]) (w1 := [(m0, .inr (10, [.int th, .ref qu, .ref qs, .ref qc, .ref qp, .int 0, .int (-1), .int 0, .null])), (qu, .inr (1, [.int 0, .ref eu, .int 0]))]) (tr := [(cA_2, .int), (cA_4, .int)]) hP hK hD [2, 3] [0, 1] rfl rfl rfl (by decide) ht_15 hvm_15 hk_15 hF_15 [0, 1] rfl hB_15
  have hS := hS1
  have hP : va_P D vwCl [(q_1, .inl (cA_2, 10, .inl (upd (upd (upd (fun _ => 0) (0 : Int32).toNatClampNeg 0) (1 : Int32).toNatClampNeg 0) (2 : Int32).toNatClampNeg 0))), (q_3, .inl (cA_4, 10, .inl (upd (upd (upd (fun _ => 0) (0 : Int32).toNatClampNeg (-1)) (1 : Int32).toNatClampNeg (-1)) (2 : Int32).toNatClampNeg (-1)))), (m0, .inr (10, [.int th, .ref qu, .ref qs, .ref qc, .ref qp, .int 0, .int (-1), .int 0, .null])), (qu, .inr (1, [.int 0, .ref eu, .int 0]))] H1 := hP
  have hD : va_D A [(q_1, .inl (cA_2, 10, .inl (upd (upd (upd (fun _ => 0) (0 : Int32).toNatClampNeg 0) (1 : Int32).toNatClampNeg 0) (2 : Int32).toNatClampNeg 0))), (q_3, .inl (cA_4, 10, .inl (upd (upd (upd (fun _ => 0) (0 : Int32).toNatClampNeg (-1)) (1 : Int32).toNatClampNeg (-1)) (2 : Int32).toNatClampNeg (-1)))), (m0, .inr (10, [.int th, .ref qu, .ref qs, .ref qc, .ref qp, .int 0, .int (-1), .int 0, .null])), (qu, .inr (1, [.int 0, .ref eu, .int 0]))] := hD
  have hK : va_K D vwCl [(cA_2, .int), (cA_4, .int)] s := hK
  clear hS1
  obtain rfl : r_15 = 0 := hw_15
  refine lv_if_eq (tgt := 45) hx hb dX8_programmes_25 (by decide) (fun c_16 => ?_) (fun c_16 => absurd (by decide) c_16)
  refine lv_iconst (v := 0) hx hb dX8_programmes_45 (by decide) ?_
  refine va_iast hx hb hK hP hD hS 0 0 rfl rfl (i := 3) (by unfold vp_in; decide) dX8_programmes_46 (fun H locs hP hD hS => ?_)
  have hP : va_P D vwCl [(q_1, .inl (cA_2, 10, .inl (upd (upd (upd (upd (fun _ => 0) (0 : Int32).toNatClampNeg 0) (1 : Int32).toNatClampNeg 0) (2 : Int32).toNatClampNeg 0) (3 : Int32).toNatClampNeg 0))), (q_3, .inl (cA_4, 10, .inl (upd (upd (upd (fun _ => 0) (0 : Int32).toNatClampNeg (-1)) (1 : Int32).toNatClampNeg (-1)) (2 : Int32).toNatClampNeg (-1)))), (m0, .inr (10, [.int th, .ref qu, .ref qs, .ref qc, .ref qp, .int 0, .int (-1), .int 0, .null])), (qu, .inr (1, [.int 0, .ref eu, .int 0]))] H := hP
  have hD : va_D A [(q_1, .inl (cA_2, 10, .inl (upd (upd (upd (upd (fun _ => 0) (0 : Int32).toNatClampNeg 0) (1 : Int32).toNatClampNeg 0) (2 : Int32).toNatClampNeg 0) (3 : Int32).toNatClampNeg 0))), (q_3, .inl (cA_4, 10, .inl (upd (upd (upd (fun _ => 0) (0 : Int32).toNatClampNeg (-1)) (1 : Int32).toNatClampNeg (-1)) (2 : Int32).toNatClampNeg (-1)))), (m0, .inr (10, [.int th, .ref qu, .ref qs, .ref qc, .ref qp, .int 0, .int (-1), .int 0, .null])), (qu, .inr (1, [.int 0, .ref eu, .int 0]))] := hD
  refine lv_aload_n hx hb dX8_programmes_47 rfl (lv_at hl 1 rfl) ?_
  refine lv_iload_n hx hb dX8_programmes_48 rfl (lv_at hl 0 rfl) ?_
  refine lv_iconst (v := -1) hx hb dX8_programmes_49 (by decide) ?_
  refine va_iast hx hb hK hP hD hS 1 1 rfl rfl (i := 3) (by unfold vp_in; decide) dX8_programmes_50 (fun H locs hP hD hS => ?_)
  have hP : va_P D vwCl [(q_1, .inl (cA_2, 10, .inl (upd (upd (upd (upd (fun _ => 0) (0 : Int32).toNatClampNeg 0) (1 : Int32).toNatClampNeg 0) (2 : Int32).toNatClampNeg 0) (3 : Int32).toNatClampNeg 0))), (q_3, .inl (cA_4, 10, .inl (upd (upd (upd (upd (fun _ => 0) (0 : Int32).toNatClampNeg (-1)) (1 : Int32).toNatClampNeg (-1)) (2 : Int32).toNatClampNeg (-1)) (3 : Int32).toNatClampNeg (-1)))), (m0, .inr (10, [.int th, .ref qu, .ref qs, .ref qc, .ref qp, .int 0, .int (-1), .int 0, .null])), (qu, .inr (1, [.int 0, .ref eu, .int 0]))] H := hP
  have hD : va_D A [(q_1, .inl (cA_2, 10, .inl (upd (upd (upd (upd (fun _ => 0) (0 : Int32).toNatClampNeg 0) (1 : Int32).toNatClampNeg 0) (2 : Int32).toNatClampNeg 0) (3 : Int32).toNatClampNeg 0))), (q_3, .inl (cA_4, 10, .inl (upd (upd (upd (upd (fun _ => 0) (0 : Int32).toNatClampNeg (-1)) (1 : Int32).toNatClampNeg (-1)) (2 : Int32).toNatClampNeg (-1)) (3 : Int32).toNatClampNeg (-1)))), (m0, .inr (10, [.int th, .ref qu, .ref qs, .ref qc, .ref qp, .int 0, .int (-1), .int 0, .null])), (qu, .inr (1, [.int 0, .ref eu, .int 0]))] := hD
  refine lv_iinc (v := 4) (lv' := [(3, .int 4), (2, .ref q_3), (1, .ref q_1), (0, .ref m0)]) hx hb dX8_programmes_51 hl (k := 0) rfl (by decide) (by decide) rfl (fun ls hl => ?_)
  refine lv_goto (tgt := 12) hx hb dX8_programmes_54 (by decide) ?_
  refine lv_iload_n hx hb dX8_programmes_12 rfl (lv_at hl 0 rfl) ?_
  refine lv_bipush (v := 10) hx hb dX8_programmes_13 (by decide) ?_
  refine lv_icmp_ge (tgt := 57) hx hb dX8_programmes_15 (by decide) (fun c_17 => absurd c_17 (by decide)) (fun c_17 => ?_)
  refine lv_aload_n hx hb dX8_programmes_18 rfl (lv_at hl 2 rfl) ?_
  refine lv_iload_n hx hb dX8_programmes_19 rfl (lv_at hl 0 rfl) ?_
  refine lv_aload_n hx hb dX8_programmes_20 rfl (lv_at hl 3 rfl) ?_
  refine lv_iload_n hx hb dX8_programmes_21 rfl (lv_at hl 0 rfl) ?_
  obtain ⟨hb_18, hc_18⟩ := z_call (wc := [(m0, .inr (10, [.int th, .ref qu, .ref qs, .ref qc, .ref qp, .int 0, .int (-1), .int 0, .null])), (qu, .inr (1, [.int 0, .ref eu, .int 0]))]) (tc := []) ([.ref m0, .int 4]) hP hK hD hS hA hE hX [2, 3] rfl rfl [] rfl
  have hF_18 := va_free (wc := [(m0, .inr (10, [.int th, .ref qu, .ref qs, .ref qc, .ref qp, .int 0, .int (-1), .int 0, .null])), (qu, .inr (1, [.int 0, .ref eu, .int 0]))]) hD hS hA [2, 3] rfl
  refine va_calli (va_runV (As := [.int 4]) (rest := [.int 4, .ref q_1]) ⟨hx, hb, hml, hown, hts⟩ (g_X8_isOn l D m0 qu qs qc qp th eu 4 _ ) (z_cV 1 hE zw_1243 zw_1245 zw_63 zw_96 zw_1246 rfl rfl rfl (by decide +kernel) ⟨(Nat.le_of_ble_eq_true rfl), (Nat.le_of_ble_eq_true rfl)⟩) ⟨hb_18, va_recv hK hP (ci := 10) (q0 := 2) rfl rfl, hc_18⟩ rfl rfl hl.1 rfl (lv_room (Nat.le_of_ble_eq_true rfl)) dX8_programmes_22 ⟨(Nat.le_of_ble_eq_true rfl), (Nat.le_of_ble_eq_true rfl)⟩) hS (fun q _ h => hF_18 q h) hF_18 (fun r_18 u_18 t_18 H1 locs ht_18 hvm_18 hw_18 hB_18 hz_18 hk_18 hS1 => ?_)
  obtain ⟨hP, hK, hD⟩ := z_back (wc := [(m0, .inr (10, [.int th, .ref qu, .ref qs, .ref qc, .ref qp, .int 0, .int (-1), .int 0, .null])), (qu, .inr (1, [.int 0, .ref eu, .int 0]))]) (wr := [(q_1, .inl (cA_2, 10, .inl (upd (upd (upd (upd (fun _ => 0) (0 : Int32).toNatClampNeg 0) (1 : Int32).toNatClampNeg 0) (2 : Int32).toNatClampNeg 0) (3 : Int32).toNatClampNeg 0))), (q_3, .inl (cA_4, 10, .inl (upd (upd (upd (upd (fun _ => 0) (0 : Int32).toNatClampNeg (-1)) (1 : Int32).toNatClampNeg (-1)) (2 : Int32).toNatClampNeg (-1)) (3 : Int32).toNatClampNeg (-1))))]) (w1 := [(m0, .inr (10, [.int th, .ref qu, .ref qs, .ref qc, .ref qp, .int 0, .int (-1), .int 0, .null])), (qu, .inr (1, [.int 0, .ref eu, .int 0]))]) (tr := [(cA_2, .int), (cA_4, .int)]) hP hK hD [2, 3] [0, 1] rfl rfl rfl (by decide) ht_18 hvm_18 hk_18 hF_18 [0, 1] rfl hB_18
  have hS := hS1
  have hP : va_P D vwCl [(q_1, .inl (cA_2, 10, .inl (upd (upd (upd (upd (fun _ => 0) (0 : Int32).toNatClampNeg 0) (1 : Int32).toNatClampNeg 0) (2 : Int32).toNatClampNeg 0) (3 : Int32).toNatClampNeg 0))), (q_3, .inl (cA_4, 10, .inl (upd (upd (upd (upd (fun _ => 0) (0 : Int32).toNatClampNeg (-1)) (1 : Int32).toNatClampNeg (-1)) (2 : Int32).toNatClampNeg (-1)) (3 : Int32).toNatClampNeg (-1)))), (m0, .inr (10, [.int th, .ref qu, .ref qs, .ref qc, .ref qp, .int 0, .int (-1), .int 0, .null])), (qu, .inr (1, [.int 0, .ref eu, .int 0]))] H1 := hP
  have hD : va_D A [(q_1, .inl (cA_2, 10, .inl (upd (upd (upd (upd (fun _ => 0) (0 : Int32).toNatClampNeg 0) (1 : Int32).toNatClampNeg 0) (2 : Int32).toNatClampNeg 0) (3 : Int32).toNatClampNeg 0))), (q_3, .inl (cA_4, 10, .inl (upd (upd (upd (upd (fun _ => 0) (0 : Int32).toNatClampNeg (-1)) (1 : Int32).toNatClampNeg (-1)) (2 : Int32).toNatClampNeg (-1)) (3 : Int32).toNatClampNeg (-1)))), (m0, .inr (10, [.int th, .ref qu, .ref qs, .ref qc, .ref qp, .int 0, .int (-1), .int 0, .null])), (qu, .inr (1, [.int 0, .ref eu, .int 0]))] := hD
  have hK : va_K D vwCl [(cA_2, .int), (cA_4, .int)] s := hK
  clear hS1
  obtain rfl : r_18 = 0 := hw_18
  refine lv_if_eq (tgt := 45) hx hb dX8_programmes_25 (by decide) (fun c_19 => ?_) (fun c_19 => absurd (by decide) c_19)
  refine lv_iconst (v := 0) hx hb dX8_programmes_45 (by decide) ?_
  refine va_iast hx hb hK hP hD hS 0 0 rfl rfl (i := 4) (by unfold vp_in; decide) dX8_programmes_46 (fun H locs hP hD hS => ?_)
  have hP : va_P D vwCl [(q_1, .inl (cA_2, 10, .inl (upd (upd (upd (upd (upd (fun _ => 0) (0 : Int32).toNatClampNeg 0) (1 : Int32).toNatClampNeg 0) (2 : Int32).toNatClampNeg 0) (3 : Int32).toNatClampNeg 0) (4 : Int32).toNatClampNeg 0))), (q_3, .inl (cA_4, 10, .inl (upd (upd (upd (upd (fun _ => 0) (0 : Int32).toNatClampNeg (-1)) (1 : Int32).toNatClampNeg (-1)) (2 : Int32).toNatClampNeg (-1)) (3 : Int32).toNatClampNeg (-1)))), (m0, .inr (10, [.int th, .ref qu, .ref qs, .ref qc, .ref qp, .int 0, .int (-1), .int 0, .null])), (qu, .inr (1, [.int 0, .ref eu, .int 0]))] H := hP
  have hD : va_D A [(q_1, .inl (cA_2, 10, .inl (upd (upd (upd (upd (upd (fun _ => 0) (0 : Int32).toNatClampNeg 0) (1 : Int32).toNatClampNeg 0) (2 : Int32).toNatClampNeg 0) (3 : Int32).toNatClampNeg 0) (4 : Int32).toNatClampNeg 0))), (q_3, .inl (cA_4, 10, .inl (upd (upd (upd (upd (fun _ => 0) (0 : Int32).toNatClampNeg (-1)) (1 : Int32).toNatClampNeg (-1)) (2 : Int32).toNatClampNeg (-1)) (3 : Int32).toNatClampNeg (-1)))), (m0, .inr (10, [.int th, .ref qu, .ref qs, .ref qc, .ref qp, .int 0, .int (-1), .int 0, .null])), (qu, .inr (1, [.int 0, .ref eu, .int 0]))] := hD
  refine lv_aload_n hx hb dX8_programmes_47 rfl (lv_at hl 1 rfl) ?_
  refine lv_iload_n hx hb dX8_programmes_48 rfl (lv_at hl 0 rfl) ?_
  refine lv_iconst (v := -1) hx hb dX8_programmes_49 (by decide) ?_
  refine va_iast hx hb hK hP hD hS 1 1 rfl rfl (i := 4) (by unfold vp_in; decide) dX8_programmes_50 (fun H locs hP hD hS => ?_)
  have hP : va_P D vwCl [(q_1, .inl (cA_2, 10, .inl (upd (upd (upd (upd (upd (fun _ => 0) (0 : Int32).toNatClampNeg 0) (1 : Int32).toNatClampNeg 0) (2 : Int32).toNatClampNeg 0) (3 : Int32).toNatClampNeg 0) (4 : Int32).toNatClampNeg 0))), (q_3, .inl (cA_4, 10, .inl (upd (upd (upd (upd (upd (fun _ => 0) (0 : Int32).toNatClampNeg (-1)) (1 : Int32).toNatClampNeg (-1)) (2 : Int32).toNatClampNeg (-1)) (3 : Int32).toNatClampNeg (-1)) (4 : Int32).toNatClampNeg (-1)))), (m0, .inr (10, [.int th, .ref qu, .ref qs, .ref qc, .ref qp, .int 0, .int (-1), .int 0, .null])), (qu, .inr (1, [.int 0, .ref eu, .int 0]))] H := hP
  have hD : va_D A [(q_1, .inl (cA_2, 10, .inl (upd (upd (upd (upd (upd (fun _ => 0) (0 : Int32).toNatClampNeg 0) (1 : Int32).toNatClampNeg 0) (2 : Int32).toNatClampNeg 0) (3 : Int32).toNatClampNeg 0) (4 : Int32).toNatClampNeg 0))), (q_3, .inl (cA_4, 10, .inl (upd (upd (upd (upd (upd (fun _ => 0) (0 : Int32).toNatClampNeg (-1)) (1 : Int32).toNatClampNeg (-1)) (2 : Int32).toNatClampNeg (-1)) (3 : Int32).toNatClampNeg (-1)) (4 : Int32).toNatClampNeg (-1)))), (m0, .inr (10, [.int th, .ref qu, .ref qs, .ref qc, .ref qp, .int 0, .int (-1), .int 0, .null])), (qu, .inr (1, [.int 0, .ref eu, .int 0]))] := hD
  refine lv_iinc (v := 5) (lv' := [(3, .int 5), (2, .ref q_3), (1, .ref q_1), (0, .ref m0)]) hx hb dX8_programmes_51 hl (k := 0) rfl (by decide) (by decide) rfl (fun ls hl => ?_)
  refine lv_goto (tgt := 12) hx hb dX8_programmes_54 (by decide) ?_
  refine lv_iload_n hx hb dX8_programmes_12 rfl (lv_at hl 0 rfl) ?_
  refine lv_bipush (v := 10) hx hb dX8_programmes_13 (by decide) ?_
  refine lv_icmp_ge (tgt := 57) hx hb dX8_programmes_15 (by decide) (fun c_20 => absurd c_20 (by decide)) (fun c_20 => ?_)
  refine lv_aload_n hx hb dX8_programmes_18 rfl (lv_at hl 2 rfl) ?_
  refine lv_iload_n hx hb dX8_programmes_19 rfl (lv_at hl 0 rfl) ?_
  refine lv_aload_n hx hb dX8_programmes_20 rfl (lv_at hl 3 rfl) ?_
  refine lv_iload_n hx hb dX8_programmes_21 rfl (lv_at hl 0 rfl) ?_
  obtain ⟨hb_21, hc_21⟩ := z_call (wc := [(m0, .inr (10, [.int th, .ref qu, .ref qs, .ref qc, .ref qp, .int 0, .int (-1), .int 0, .null])), (qu, .inr (1, [.int 0, .ref eu, .int 0]))]) (tc := []) ([.ref m0, .int 5]) hP hK hD hS hA hE hX [2, 3] rfl rfl [] rfl
  have hF_21 := va_free (wc := [(m0, .inr (10, [.int th, .ref qu, .ref qs, .ref qc, .ref qp, .int 0, .int (-1), .int 0, .null])), (qu, .inr (1, [.int 0, .ref eu, .int 0]))]) hD hS hA [2, 3] rfl
  refine va_calli (va_runV (As := [.int 5]) (rest := [.int 5, .ref q_1]) ⟨hx, hb, hml, hown, hts⟩ (g_X8_isOn l D m0 qu qs qc qp th eu 5 _ ) (z_cV 1 hE zw_1243 zw_1245 zw_63 zw_96 zw_1246 rfl rfl rfl (by decide +kernel) ⟨(Nat.le_of_ble_eq_true rfl), (Nat.le_of_ble_eq_true rfl)⟩) ⟨hb_21, va_recv hK hP (ci := 10) (q0 := 2) rfl rfl, hc_21⟩ rfl rfl hl.1 rfl (lv_room (Nat.le_of_ble_eq_true rfl)) dX8_programmes_22 ⟨(Nat.le_of_ble_eq_true rfl), (Nat.le_of_ble_eq_true rfl)⟩) hS (fun q _ h => hF_21 q h) hF_21 (fun r_21 u_21 t_21 H1 locs ht_21 hvm_21 hw_21 hB_21 hz_21 hk_21 hS1 => ?_)
  obtain ⟨hP, hK, hD⟩ := z_back (wc := [(m0, .inr (10, [.int th, .ref qu, .ref qs, .ref qc, .ref qp, .int 0, .int (-1), .int 0, .null])), (qu, .inr (1, [.int 0, .ref eu, .int 0]))]) (wr := [(q_1, .inl (cA_2, 10, .inl (upd (upd (upd (upd (upd (fun _ => 0) (0 : Int32).toNatClampNeg 0) (1 : Int32).toNatClampNeg 0) (2 : Int32).toNatClampNeg 0) (3 : Int32).toNatClampNeg 0) (4 : Int32).toNatClampNeg 0))), (q_3, .inl (cA_4, 10, .inl (upd (upd (upd (upd (upd (fun _ => 0) (0 : Int32).toNatClampNeg (-1)) (1 : Int32).toNatClampNeg (-1)) (2 : Int32).toNatClampNeg (-1)) (3 : Int32).toNatClampNeg (-1)) (4 : Int32).toNatClampNeg (-1))))]) (w1 := [(m0, .inr (10, [.int th, .ref qu, .ref qs, .ref qc, .ref qp, .int 0, .int (-1), .int 0, .null])), (qu, .inr (1, [.int 0, .ref eu, .int 0]))]) (tr := [(cA_2, .int), (cA_4, .int)]) hP hK hD [2, 3] [0, 1] rfl rfl rfl (by decide) ht_21 hvm_21 hk_21 hF_21 [0, 1] rfl hB_21
  have hS := hS1
  have hP : va_P D vwCl [(q_1, .inl (cA_2, 10, .inl (upd (upd (upd (upd (upd (fun _ => 0) (0 : Int32).toNatClampNeg 0) (1 : Int32).toNatClampNeg 0) (2 : Int32).toNatClampNeg 0) (3 : Int32).toNatClampNeg 0) (4 : Int32).toNatClampNeg 0))), (q_3, .inl (cA_4, 10, .inl (upd (upd (upd (upd (upd (fun _ => 0) (0 : Int32).toNatClampNeg (-1)) (1 : Int32).toNatClampNeg (-1)) (2 : Int32).toNatClampNeg (-1)) (3 : Int32).toNatClampNeg (-1)) (4 : Int32).toNatClampNeg (-1)))), (m0, .inr (10, [.int th, .ref qu, .ref qs, .ref qc, .ref qp, .int 0, .int (-1), .int 0, .null])), (qu, .inr (1, [.int 0, .ref eu, .int 0]))] H1 := hP
  have hD : va_D A [(q_1, .inl (cA_2, 10, .inl (upd (upd (upd (upd (upd (fun _ => 0) (0 : Int32).toNatClampNeg 0) (1 : Int32).toNatClampNeg 0) (2 : Int32).toNatClampNeg 0) (3 : Int32).toNatClampNeg 0) (4 : Int32).toNatClampNeg 0))), (q_3, .inl (cA_4, 10, .inl (upd (upd (upd (upd (upd (fun _ => 0) (0 : Int32).toNatClampNeg (-1)) (1 : Int32).toNatClampNeg (-1)) (2 : Int32).toNatClampNeg (-1)) (3 : Int32).toNatClampNeg (-1)) (4 : Int32).toNatClampNeg (-1)))), (m0, .inr (10, [.int th, .ref qu, .ref qs, .ref qc, .ref qp, .int 0, .int (-1), .int 0, .null])), (qu, .inr (1, [.int 0, .ref eu, .int 0]))] := hD
  have hK : va_K D vwCl [(cA_2, .int), (cA_4, .int)] s := hK
  clear hS1
  obtain rfl : r_21 = 0 := hw_21
  refine lv_if_eq (tgt := 45) hx hb dX8_programmes_25 (by decide) (fun c_22 => ?_) (fun c_22 => absurd (by decide) c_22)
  refine lv_iconst (v := 0) hx hb dX8_programmes_45 (by decide) ?_
  refine va_iast hx hb hK hP hD hS 0 0 rfl rfl (i := 5) (by unfold vp_in; decide) dX8_programmes_46 (fun H locs hP hD hS => ?_)
  have hP : va_P D vwCl [(q_1, .inl (cA_2, 10, .inl (upd (upd (upd (upd (upd (upd (fun _ => 0) (0 : Int32).toNatClampNeg 0) (1 : Int32).toNatClampNeg 0) (2 : Int32).toNatClampNeg 0) (3 : Int32).toNatClampNeg 0) (4 : Int32).toNatClampNeg 0) (5 : Int32).toNatClampNeg 0))), (q_3, .inl (cA_4, 10, .inl (upd (upd (upd (upd (upd (fun _ => 0) (0 : Int32).toNatClampNeg (-1)) (1 : Int32).toNatClampNeg (-1)) (2 : Int32).toNatClampNeg (-1)) (3 : Int32).toNatClampNeg (-1)) (4 : Int32).toNatClampNeg (-1)))), (m0, .inr (10, [.int th, .ref qu, .ref qs, .ref qc, .ref qp, .int 0, .int (-1), .int 0, .null])), (qu, .inr (1, [.int 0, .ref eu, .int 0]))] H := hP
  have hD : va_D A [(q_1, .inl (cA_2, 10, .inl (upd (upd (upd (upd (upd (upd (fun _ => 0) (0 : Int32).toNatClampNeg 0) (1 : Int32).toNatClampNeg 0) (2 : Int32).toNatClampNeg 0) (3 : Int32).toNatClampNeg 0) (4 : Int32).toNatClampNeg 0) (5 : Int32).toNatClampNeg 0))), (q_3, .inl (cA_4, 10, .inl (upd (upd (upd (upd (upd (fun _ => 0) (0 : Int32).toNatClampNeg (-1)) (1 : Int32).toNatClampNeg (-1)) (2 : Int32).toNatClampNeg (-1)) (3 : Int32).toNatClampNeg (-1)) (4 : Int32).toNatClampNeg (-1)))), (m0, .inr (10, [.int th, .ref qu, .ref qs, .ref qc, .ref qp, .int 0, .int (-1), .int 0, .null])), (qu, .inr (1, [.int 0, .ref eu, .int 0]))] := hD
  refine lv_aload_n hx hb dX8_programmes_47 rfl (lv_at hl 1 rfl) ?_
  refine lv_iload_n hx hb dX8_programmes_48 rfl (lv_at hl 0 rfl) ?_
  refine lv_iconst (v := -1) hx hb dX8_programmes_49 (by decide) ?_
  refine va_iast hx hb hK hP hD hS 1 1 rfl rfl (i := 5) (by unfold vp_in; decide) dX8_programmes_50 (fun H locs hP hD hS => ?_)
  have hP : va_P D vwCl [(q_1, .inl (cA_2, 10, .inl (upd (upd (upd (upd (upd (upd (fun _ => 0) (0 : Int32).toNatClampNeg 0) (1 : Int32).toNatClampNeg 0) (2 : Int32).toNatClampNeg 0) (3 : Int32).toNatClampNeg 0) (4 : Int32).toNatClampNeg 0) (5 : Int32).toNatClampNeg 0))), (q_3, .inl (cA_4, 10, .inl (upd (upd (upd (upd (upd (upd (fun _ => 0) (0 : Int32).toNatClampNeg (-1)) (1 : Int32).toNatClampNeg (-1)) (2 : Int32).toNatClampNeg (-1)) (3 : Int32).toNatClampNeg (-1)) (4 : Int32).toNatClampNeg (-1)) (5 : Int32).toNatClampNeg (-1)))), (m0, .inr (10, [.int th, .ref qu, .ref qs, .ref qc, .ref qp, .int 0, .int (-1), .int 0, .null])), (qu, .inr (1, [.int 0, .ref eu, .int 0]))] H := hP
  have hD : va_D A [(q_1, .inl (cA_2, 10, .inl (upd (upd (upd (upd (upd (upd (fun _ => 0) (0 : Int32).toNatClampNeg 0) (1 : Int32).toNatClampNeg 0) (2 : Int32).toNatClampNeg 0) (3 : Int32).toNatClampNeg 0) (4 : Int32).toNatClampNeg 0) (5 : Int32).toNatClampNeg 0))), (q_3, .inl (cA_4, 10, .inl (upd (upd (upd (upd (upd (upd (fun _ => 0) (0 : Int32).toNatClampNeg (-1)) (1 : Int32).toNatClampNeg (-1)) (2 : Int32).toNatClampNeg (-1)) (3 : Int32).toNatClampNeg (-1)) (4 : Int32).toNatClampNeg (-1)) (5 : Int32).toNatClampNeg (-1)))), (m0, .inr (10, [.int th, .ref qu, .ref qs, .ref qc, .ref qp, .int 0, .int (-1), .int 0, .null])), (qu, .inr (1, [.int 0, .ref eu, .int 0]))] := hD
  refine lv_iinc (v := 6) (lv' := [(3, .int 6), (2, .ref q_3), (1, .ref q_1), (0, .ref m0)]) hx hb dX8_programmes_51 hl (k := 0) rfl (by decide) (by decide) rfl (fun ls hl => ?_)
  refine lv_goto (tgt := 12) hx hb dX8_programmes_54 (by decide) ?_
  refine lv_iload_n hx hb dX8_programmes_12 rfl (lv_at hl 0 rfl) ?_
  refine lv_bipush (v := 10) hx hb dX8_programmes_13 (by decide) ?_
  refine lv_icmp_ge (tgt := 57) hx hb dX8_programmes_15 (by decide) (fun c_23 => absurd c_23 (by decide)) (fun c_23 => ?_)
  refine lv_aload_n hx hb dX8_programmes_18 rfl (lv_at hl 2 rfl) ?_
  refine lv_iload_n hx hb dX8_programmes_19 rfl (lv_at hl 0 rfl) ?_
  refine lv_aload_n hx hb dX8_programmes_20 rfl (lv_at hl 3 rfl) ?_
  refine lv_iload_n hx hb dX8_programmes_21 rfl (lv_at hl 0 rfl) ?_
  obtain ⟨hb_24, hc_24⟩ := z_call (wc := [(m0, .inr (10, [.int th, .ref qu, .ref qs, .ref qc, .ref qp, .int 0, .int (-1), .int 0, .null])), (qu, .inr (1, [.int 0, .ref eu, .int 0]))]) (tc := []) ([.ref m0, .int 6]) hP hK hD hS hA hE hX [2, 3] rfl rfl [] rfl
  have hF_24 := va_free (wc := [(m0, .inr (10, [.int th, .ref qu, .ref qs, .ref qc, .ref qp, .int 0, .int (-1), .int 0, .null])), (qu, .inr (1, [.int 0, .ref eu, .int 0]))]) hD hS hA [2, 3] rfl
  refine va_calli (va_runV (As := [.int 6]) (rest := [.int 6, .ref q_1]) ⟨hx, hb, hml, hown, hts⟩ (g_X8_isOn l D m0 qu qs qc qp th eu 6 _ ) (z_cV 1 hE zw_1243 zw_1245 zw_63 zw_96 zw_1246 rfl rfl rfl (by decide +kernel) ⟨(Nat.le_of_ble_eq_true rfl), (Nat.le_of_ble_eq_true rfl)⟩) ⟨hb_24, va_recv hK hP (ci := 10) (q0 := 2) rfl rfl, hc_24⟩ rfl rfl hl.1 rfl (lv_room (Nat.le_of_ble_eq_true rfl)) dX8_programmes_22 ⟨(Nat.le_of_ble_eq_true rfl), (Nat.le_of_ble_eq_true rfl)⟩) hS (fun q _ h => hF_24 q h) hF_24 (fun r_24 u_24 t_24 H1 locs ht_24 hvm_24 hw_24 hB_24 hz_24 hk_24 hS1 => ?_)
  obtain ⟨hP, hK, hD⟩ := z_back (wc := [(m0, .inr (10, [.int th, .ref qu, .ref qs, .ref qc, .ref qp, .int 0, .int (-1), .int 0, .null])), (qu, .inr (1, [.int 0, .ref eu, .int 0]))]) (wr := [(q_1, .inl (cA_2, 10, .inl (upd (upd (upd (upd (upd (upd (fun _ => 0) (0 : Int32).toNatClampNeg 0) (1 : Int32).toNatClampNeg 0) (2 : Int32).toNatClampNeg 0) (3 : Int32).toNatClampNeg 0) (4 : Int32).toNatClampNeg 0) (5 : Int32).toNatClampNeg 0))), (q_3, .inl (cA_4, 10, .inl (upd (upd (upd (upd (upd (upd (fun _ => 0) (0 : Int32).toNatClampNeg (-1)) (1 : Int32).toNatClampNeg (-1)) (2 : Int32).toNatClampNeg (-1)) (3 : Int32).toNatClampNeg (-1)) (4 : Int32).toNatClampNeg (-1)) (5 : Int32).toNatClampNeg (-1))))]) (w1 := [(m0, .inr (10, [.int th, .ref qu, .ref qs, .ref qc, .ref qp, .int 0, .int (-1), .int 0, .null])), (qu, .inr (1, [.int 0, .ref eu, .int 0]))]) (tr := [(cA_2, .int), (cA_4, .int)]) hP hK hD [2, 3] [0, 1] rfl rfl rfl (by decide) ht_24 hvm_24 hk_24 hF_24 [0, 1] rfl hB_24
  have hS := hS1
  have hP : va_P D vwCl [(q_1, .inl (cA_2, 10, .inl (upd (upd (upd (upd (upd (upd (fun _ => 0) (0 : Int32).toNatClampNeg 0) (1 : Int32).toNatClampNeg 0) (2 : Int32).toNatClampNeg 0) (3 : Int32).toNatClampNeg 0) (4 : Int32).toNatClampNeg 0) (5 : Int32).toNatClampNeg 0))), (q_3, .inl (cA_4, 10, .inl (upd (upd (upd (upd (upd (upd (fun _ => 0) (0 : Int32).toNatClampNeg (-1)) (1 : Int32).toNatClampNeg (-1)) (2 : Int32).toNatClampNeg (-1)) (3 : Int32).toNatClampNeg (-1)) (4 : Int32).toNatClampNeg (-1)) (5 : Int32).toNatClampNeg (-1)))), (m0, .inr (10, [.int th, .ref qu, .ref qs, .ref qc, .ref qp, .int 0, .int (-1), .int 0, .null])), (qu, .inr (1, [.int 0, .ref eu, .int 0]))] H1 := hP
  have hD : va_D A [(q_1, .inl (cA_2, 10, .inl (upd (upd (upd (upd (upd (upd (fun _ => 0) (0 : Int32).toNatClampNeg 0) (1 : Int32).toNatClampNeg 0) (2 : Int32).toNatClampNeg 0) (3 : Int32).toNatClampNeg 0) (4 : Int32).toNatClampNeg 0) (5 : Int32).toNatClampNeg 0))), (q_3, .inl (cA_4, 10, .inl (upd (upd (upd (upd (upd (upd (fun _ => 0) (0 : Int32).toNatClampNeg (-1)) (1 : Int32).toNatClampNeg (-1)) (2 : Int32).toNatClampNeg (-1)) (3 : Int32).toNatClampNeg (-1)) (4 : Int32).toNatClampNeg (-1)) (5 : Int32).toNatClampNeg (-1)))), (m0, .inr (10, [.int th, .ref qu, .ref qs, .ref qc, .ref qp, .int 0, .int (-1), .int 0, .null])), (qu, .inr (1, [.int 0, .ref eu, .int 0]))] := hD
  have hK : va_K D vwCl [(cA_2, .int), (cA_4, .int)] s := hK
  clear hS1
  obtain rfl : r_24 = 0 := hw_24
  refine lv_if_eq (tgt := 45) hx hb dX8_programmes_25 (by decide) (fun c_25 => ?_) (fun c_25 => absurd (by decide) c_25)
  refine lv_iconst (v := 0) hx hb dX8_programmes_45 (by decide) ?_
  refine va_iast hx hb hK hP hD hS 0 0 rfl rfl (i := 6) (by unfold vp_in; decide) dX8_programmes_46 (fun H locs hP hD hS => ?_)
  have hP : va_P D vwCl [(q_1, .inl (cA_2, 10, .inl (upd (upd (upd (upd (upd (upd (upd (fun _ => 0) (0 : Int32).toNatClampNeg 0) (1 : Int32).toNatClampNeg 0) (2 : Int32).toNatClampNeg 0) (3 : Int32).toNatClampNeg 0) (4 : Int32).toNatClampNeg 0) (5 : Int32).toNatClampNeg 0) (6 : Int32).toNatClampNeg 0))), (q_3, .inl (cA_4, 10, .inl (upd (upd (upd (upd (upd (upd (fun _ => 0) (0 : Int32).toNatClampNeg (-1)) (1 : Int32).toNatClampNeg (-1)) (2 : Int32).toNatClampNeg (-1)) (3 : Int32).toNatClampNeg (-1)) (4 : Int32).toNatClampNeg (-1)) (5 : Int32).toNatClampNeg (-1)))), (m0, .inr (10, [.int th, .ref qu, .ref qs, .ref qc, .ref qp, .int 0, .int (-1), .int 0, .null])), (qu, .inr (1, [.int 0, .ref eu, .int 0]))] H := hP
  have hD : va_D A [(q_1, .inl (cA_2, 10, .inl (upd (upd (upd (upd (upd (upd (upd (fun _ => 0) (0 : Int32).toNatClampNeg 0) (1 : Int32).toNatClampNeg 0) (2 : Int32).toNatClampNeg 0) (3 : Int32).toNatClampNeg 0) (4 : Int32).toNatClampNeg 0) (5 : Int32).toNatClampNeg 0) (6 : Int32).toNatClampNeg 0))), (q_3, .inl (cA_4, 10, .inl (upd (upd (upd (upd (upd (upd (fun _ => 0) (0 : Int32).toNatClampNeg (-1)) (1 : Int32).toNatClampNeg (-1)) (2 : Int32).toNatClampNeg (-1)) (3 : Int32).toNatClampNeg (-1)) (4 : Int32).toNatClampNeg (-1)) (5 : Int32).toNatClampNeg (-1)))), (m0, .inr (10, [.int th, .ref qu, .ref qs, .ref qc, .ref qp, .int 0, .int (-1), .int 0, .null])), (qu, .inr (1, [.int 0, .ref eu, .int 0]))] := hD
  refine lv_aload_n hx hb dX8_programmes_47 rfl (lv_at hl 1 rfl) ?_
  refine lv_iload_n hx hb dX8_programmes_48 rfl (lv_at hl 0 rfl) ?_
  refine lv_iconst (v := -1) hx hb dX8_programmes_49 (by decide) ?_
  refine va_iast hx hb hK hP hD hS 1 1 rfl rfl (i := 6) (by unfold vp_in; decide) dX8_programmes_50 (fun H locs hP hD hS => ?_)
  have hP : va_P D vwCl [(q_1, .inl (cA_2, 10, .inl (upd (upd (upd (upd (upd (upd (upd (fun _ => 0) (0 : Int32).toNatClampNeg 0) (1 : Int32).toNatClampNeg 0) (2 : Int32).toNatClampNeg 0) (3 : Int32).toNatClampNeg 0) (4 : Int32).toNatClampNeg 0) (5 : Int32).toNatClampNeg 0) (6 : Int32).toNatClampNeg 0))), (q_3, .inl (cA_4, 10, .inl (upd (upd (upd (upd (upd (upd (upd (fun _ => 0) (0 : Int32).toNatClampNeg (-1)) (1 : Int32).toNatClampNeg (-1)) (2 : Int32).toNatClampNeg (-1)) (3 : Int32).toNatClampNeg (-1)) (4 : Int32).toNatClampNeg (-1)) (5 : Int32).toNatClampNeg (-1)) (6 : Int32).toNatClampNeg (-1)))), (m0, .inr (10, [.int th, .ref qu, .ref qs, .ref qc, .ref qp, .int 0, .int (-1), .int 0, .null])), (qu, .inr (1, [.int 0, .ref eu, .int 0]))] H := hP
  have hD : va_D A [(q_1, .inl (cA_2, 10, .inl (upd (upd (upd (upd (upd (upd (upd (fun _ => 0) (0 : Int32).toNatClampNeg 0) (1 : Int32).toNatClampNeg 0) (2 : Int32).toNatClampNeg 0) (3 : Int32).toNatClampNeg 0) (4 : Int32).toNatClampNeg 0) (5 : Int32).toNatClampNeg 0) (6 : Int32).toNatClampNeg 0))), (q_3, .inl (cA_4, 10, .inl (upd (upd (upd (upd (upd (upd (upd (fun _ => 0) (0 : Int32).toNatClampNeg (-1)) (1 : Int32).toNatClampNeg (-1)) (2 : Int32).toNatClampNeg (-1)) (3 : Int32).toNatClampNeg (-1)) (4 : Int32).toNatClampNeg (-1)) (5 : Int32).toNatClampNeg (-1)) (6 : Int32).toNatClampNeg (-1)))), (m0, .inr (10, [.int th, .ref qu, .ref qs, .ref qc, .ref qp, .int 0, .int (-1), .int 0, .null])), (qu, .inr (1, [.int 0, .ref eu, .int 0]))] := hD
  refine lv_iinc (v := 7) (lv' := [(3, .int 7), (2, .ref q_3), (1, .ref q_1), (0, .ref m0)]) hx hb dX8_programmes_51 hl (k := 0) rfl (by decide) (by decide) rfl (fun ls hl => ?_)
  refine lv_goto (tgt := 12) hx hb dX8_programmes_54 (by decide) ?_
  refine lv_iload_n hx hb dX8_programmes_12 rfl (lv_at hl 0 rfl) ?_
  refine lv_bipush (v := 10) hx hb dX8_programmes_13 (by decide) ?_
  refine lv_icmp_ge (tgt := 57) hx hb dX8_programmes_15 (by decide) (fun c_26 => absurd c_26 (by decide)) (fun c_26 => ?_)
  refine lv_aload_n hx hb dX8_programmes_18 rfl (lv_at hl 2 rfl) ?_
  refine lv_iload_n hx hb dX8_programmes_19 rfl (lv_at hl 0 rfl) ?_
  refine lv_aload_n hx hb dX8_programmes_20 rfl (lv_at hl 3 rfl) ?_
  refine lv_iload_n hx hb dX8_programmes_21 rfl (lv_at hl 0 rfl) ?_
  obtain ⟨hb_27, hc_27⟩ := z_call (wc := [(m0, .inr (10, [.int th, .ref qu, .ref qs, .ref qc, .ref qp, .int 0, .int (-1), .int 0, .null])), (qu, .inr (1, [.int 0, .ref eu, .int 0]))]) (tc := []) ([.ref m0, .int 7]) hP hK hD hS hA hE hX [2, 3] rfl rfl [] rfl
  have hF_27 := va_free (wc := [(m0, .inr (10, [.int th, .ref qu, .ref qs, .ref qc, .ref qp, .int 0, .int (-1), .int 0, .null])), (qu, .inr (1, [.int 0, .ref eu, .int 0]))]) hD hS hA [2, 3] rfl
  refine va_calli (va_runV (As := [.int 7]) (rest := [.int 7, .ref q_1]) ⟨hx, hb, hml, hown, hts⟩ (g_X8_isOn l D m0 qu qs qc qp th eu 7 _ ) (z_cV 1 hE zw_1243 zw_1245 zw_63 zw_96 zw_1246 rfl rfl rfl (by decide +kernel) ⟨(Nat.le_of_ble_eq_true rfl), (Nat.le_of_ble_eq_true rfl)⟩) ⟨hb_27, va_recv hK hP (ci := 10) (q0 := 2) rfl rfl, hc_27⟩ rfl rfl hl.1 rfl (lv_room (Nat.le_of_ble_eq_true rfl)) dX8_programmes_22 ⟨(Nat.le_of_ble_eq_true rfl), (Nat.le_of_ble_eq_true rfl)⟩) hS (fun q _ h => hF_27 q h) hF_27 (fun r_27 u_27 t_27 H1 locs ht_27 hvm_27 hw_27 hB_27 hz_27 hk_27 hS1 => ?_)
  obtain ⟨hP, hK, hD⟩ := z_back (wc := [(m0, .inr (10, [.int th, .ref qu, .ref qs, .ref qc, .ref qp, .int 0, .int (-1), .int 0, .null])), (qu, .inr (1, [.int 0, .ref eu, .int 0]))]) (wr := [(q_1, .inl (cA_2, 10, .inl (upd (upd (upd (upd (upd (upd (upd (fun _ => 0) (0 : Int32).toNatClampNeg 0) (1 : Int32).toNatClampNeg 0) (2 : Int32).toNatClampNeg 0) (3 : Int32).toNatClampNeg 0) (4 : Int32).toNatClampNeg 0) (5 : Int32).toNatClampNeg 0) (6 : Int32).toNatClampNeg 0))), (q_3, .inl (cA_4, 10, .inl (upd (upd (upd (upd (upd (upd (upd (fun _ => 0) (0 : Int32).toNatClampNeg (-1)) (1 : Int32).toNatClampNeg (-1)) (2 : Int32).toNatClampNeg (-1)) (3 : Int32).toNatClampNeg (-1)) (4 : Int32).toNatClampNeg (-1)) (5 : Int32).toNatClampNeg (-1)) (6 : Int32).toNatClampNeg (-1))))]) (w1 := [(m0, .inr (10, [.int th, .ref qu, .ref qs, .ref qc, .ref qp, .int 0, .int (-1), .int 0, .null])), (qu, .inr (1, [.int 0, .ref eu, .int 0]))]) (tr := [(cA_2, .int), (cA_4, .int)]) hP hK hD [2, 3] [0, 1] rfl rfl rfl (by decide) ht_27 hvm_27 hk_27 hF_27 [0, 1] rfl hB_27
  have hS := hS1
  have hP : va_P D vwCl [(q_1, .inl (cA_2, 10, .inl (upd (upd (upd (upd (upd (upd (upd (fun _ => 0) (0 : Int32).toNatClampNeg 0) (1 : Int32).toNatClampNeg 0) (2 : Int32).toNatClampNeg 0) (3 : Int32).toNatClampNeg 0) (4 : Int32).toNatClampNeg 0) (5 : Int32).toNatClampNeg 0) (6 : Int32).toNatClampNeg 0))), (q_3, .inl (cA_4, 10, .inl (upd (upd (upd (upd (upd (upd (upd (fun _ => 0) (0 : Int32).toNatClampNeg (-1)) (1 : Int32).toNatClampNeg (-1)) (2 : Int32).toNatClampNeg (-1)) (3 : Int32).toNatClampNeg (-1)) (4 : Int32).toNatClampNeg (-1)) (5 : Int32).toNatClampNeg (-1)) (6 : Int32).toNatClampNeg (-1)))), (m0, .inr (10, [.int th, .ref qu, .ref qs, .ref qc, .ref qp, .int 0, .int (-1), .int 0, .null])), (qu, .inr (1, [.int 0, .ref eu, .int 0]))] H1 := hP
  have hD : va_D A [(q_1, .inl (cA_2, 10, .inl (upd (upd (upd (upd (upd (upd (upd (fun _ => 0) (0 : Int32).toNatClampNeg 0) (1 : Int32).toNatClampNeg 0) (2 : Int32).toNatClampNeg 0) (3 : Int32).toNatClampNeg 0) (4 : Int32).toNatClampNeg 0) (5 : Int32).toNatClampNeg 0) (6 : Int32).toNatClampNeg 0))), (q_3, .inl (cA_4, 10, .inl (upd (upd (upd (upd (upd (upd (upd (fun _ => 0) (0 : Int32).toNatClampNeg (-1)) (1 : Int32).toNatClampNeg (-1)) (2 : Int32).toNatClampNeg (-1)) (3 : Int32).toNatClampNeg (-1)) (4 : Int32).toNatClampNeg (-1)) (5 : Int32).toNatClampNeg (-1)) (6 : Int32).toNatClampNeg (-1)))), (m0, .inr (10, [.int th, .ref qu, .ref qs, .ref qc, .ref qp, .int 0, .int (-1), .int 0, .null])), (qu, .inr (1, [.int 0, .ref eu, .int 0]))] := hD
  have hK : va_K D vwCl [(cA_2, .int), (cA_4, .int)] s := hK
  clear hS1
  obtain rfl : r_27 = 0 := hw_27
  refine lv_if_eq (tgt := 45) hx hb dX8_programmes_25 (by decide) (fun c_28 => ?_) (fun c_28 => absurd (by decide) c_28)
  refine lv_iconst (v := 0) hx hb dX8_programmes_45 (by decide) ?_
  refine va_iast hx hb hK hP hD hS 0 0 rfl rfl (i := 7) (by unfold vp_in; decide) dX8_programmes_46 (fun H locs hP hD hS => ?_)
  have hP : va_P D vwCl [(q_1, .inl (cA_2, 10, .inl (upd (upd (upd (upd (upd (upd (upd (upd (fun _ => 0) (0 : Int32).toNatClampNeg 0) (1 : Int32).toNatClampNeg 0) (2 : Int32).toNatClampNeg 0) (3 : Int32).toNatClampNeg 0) (4 : Int32).toNatClampNeg 0) (5 : Int32).toNatClampNeg 0) (6 : Int32).toNatClampNeg 0) (7 : Int32).toNatClampNeg 0))), (q_3, .inl (cA_4, 10, .inl (upd (upd (upd (upd (upd (upd (upd (fun _ => 0) (0 : Int32).toNatClampNeg (-1)) (1 : Int32).toNatClampNeg (-1)) (2 : Int32).toNatClampNeg (-1)) (3 : Int32).toNatClampNeg (-1)) (4 : Int32).toNatClampNeg (-1)) (5 : Int32).toNatClampNeg (-1)) (6 : Int32).toNatClampNeg (-1)))), (m0, .inr (10, [.int th, .ref qu, .ref qs, .ref qc, .ref qp, .int 0, .int (-1), .int 0, .null])), (qu, .inr (1, [.int 0, .ref eu, .int 0]))] H := hP
  have hD : va_D A [(q_1, .inl (cA_2, 10, .inl (upd (upd (upd (upd (upd (upd (upd (upd (fun _ => 0) (0 : Int32).toNatClampNeg 0) (1 : Int32).toNatClampNeg 0) (2 : Int32).toNatClampNeg 0) (3 : Int32).toNatClampNeg 0) (4 : Int32).toNatClampNeg 0) (5 : Int32).toNatClampNeg 0) (6 : Int32).toNatClampNeg 0) (7 : Int32).toNatClampNeg 0))), (q_3, .inl (cA_4, 10, .inl (upd (upd (upd (upd (upd (upd (upd (fun _ => 0) (0 : Int32).toNatClampNeg (-1)) (1 : Int32).toNatClampNeg (-1)) (2 : Int32).toNatClampNeg (-1)) (3 : Int32).toNatClampNeg (-1)) (4 : Int32).toNatClampNeg (-1)) (5 : Int32).toNatClampNeg (-1)) (6 : Int32).toNatClampNeg (-1)))), (m0, .inr (10, [.int th, .ref qu, .ref qs, .ref qc, .ref qp, .int 0, .int (-1), .int 0, .null])), (qu, .inr (1, [.int 0, .ref eu, .int 0]))] := hD
  refine lv_aload_n hx hb dX8_programmes_47 rfl (lv_at hl 1 rfl) ?_
  refine lv_iload_n hx hb dX8_programmes_48 rfl (lv_at hl 0 rfl) ?_
  refine lv_iconst (v := -1) hx hb dX8_programmes_49 (by decide) ?_
  refine va_iast hx hb hK hP hD hS 1 1 rfl rfl (i := 7) (by unfold vp_in; decide) dX8_programmes_50 (fun H locs hP hD hS => ?_)
  have hP : va_P D vwCl [(q_1, .inl (cA_2, 10, .inl (upd (upd (upd (upd (upd (upd (upd (upd (fun _ => 0) (0 : Int32).toNatClampNeg 0) (1 : Int32).toNatClampNeg 0) (2 : Int32).toNatClampNeg 0) (3 : Int32).toNatClampNeg 0) (4 : Int32).toNatClampNeg 0) (5 : Int32).toNatClampNeg 0) (6 : Int32).toNatClampNeg 0) (7 : Int32).toNatClampNeg 0))), (q_3, .inl (cA_4, 10, .inl (upd (upd (upd (upd (upd (upd (upd (upd (fun _ => 0) (0 : Int32).toNatClampNeg (-1)) (1 : Int32).toNatClampNeg (-1)) (2 : Int32).toNatClampNeg (-1)) (3 : Int32).toNatClampNeg (-1)) (4 : Int32).toNatClampNeg (-1)) (5 : Int32).toNatClampNeg (-1)) (6 : Int32).toNatClampNeg (-1)) (7 : Int32).toNatClampNeg (-1)))), (m0, .inr (10, [.int th, .ref qu, .ref qs, .ref qc, .ref qp, .int 0, .int (-1), .int 0, .null])), (qu, .inr (1, [.int 0, .ref eu, .int 0]))] H := hP
  have hD : va_D A [(q_1, .inl (cA_2, 10, .inl (upd (upd (upd (upd (upd (upd (upd (upd (fun _ => 0) (0 : Int32).toNatClampNeg 0) (1 : Int32).toNatClampNeg 0) (2 : Int32).toNatClampNeg 0) (3 : Int32).toNatClampNeg 0) (4 : Int32).toNatClampNeg 0) (5 : Int32).toNatClampNeg 0) (6 : Int32).toNatClampNeg 0) (7 : Int32).toNatClampNeg 0))), (q_3, .inl (cA_4, 10, .inl (upd (upd (upd (upd (upd (upd (upd (upd (fun _ => 0) (0 : Int32).toNatClampNeg (-1)) (1 : Int32).toNatClampNeg (-1)) (2 : Int32).toNatClampNeg (-1)) (3 : Int32).toNatClampNeg (-1)) (4 : Int32).toNatClampNeg (-1)) (5 : Int32).toNatClampNeg (-1)) (6 : Int32).toNatClampNeg (-1)) (7 : Int32).toNatClampNeg (-1)))), (m0, .inr (10, [.int th, .ref qu, .ref qs, .ref qc, .ref qp, .int 0, .int (-1), .int 0, .null])), (qu, .inr (1, [.int 0, .ref eu, .int 0]))] := hD
  refine lv_iinc (v := 8) (lv' := [(3, .int 8), (2, .ref q_3), (1, .ref q_1), (0, .ref m0)]) hx hb dX8_programmes_51 hl (k := 0) rfl (by decide) (by decide) rfl (fun ls hl => ?_)
  refine lv_goto (tgt := 12) hx hb dX8_programmes_54 (by decide) ?_
  refine lv_iload_n hx hb dX8_programmes_12 rfl (lv_at hl 0 rfl) ?_
  refine lv_bipush (v := 10) hx hb dX8_programmes_13 (by decide) ?_
  refine lv_icmp_ge (tgt := 57) hx hb dX8_programmes_15 (by decide) (fun c_29 => absurd c_29 (by decide)) (fun c_29 => ?_)
  refine lv_aload_n hx hb dX8_programmes_18 rfl (lv_at hl 2 rfl) ?_
  refine lv_iload_n hx hb dX8_programmes_19 rfl (lv_at hl 0 rfl) ?_
  refine lv_aload_n hx hb dX8_programmes_20 rfl (lv_at hl 3 rfl) ?_
  refine lv_iload_n hx hb dX8_programmes_21 rfl (lv_at hl 0 rfl) ?_
  obtain ⟨hb_30, hc_30⟩ := z_call (wc := [(m0, .inr (10, [.int th, .ref qu, .ref qs, .ref qc, .ref qp, .int 0, .int (-1), .int 0, .null])), (qu, .inr (1, [.int 0, .ref eu, .int 0]))]) (tc := []) ([.ref m0, .int 8]) hP hK hD hS hA hE hX [2, 3] rfl rfl [] rfl
  have hF_30 := va_free (wc := [(m0, .inr (10, [.int th, .ref qu, .ref qs, .ref qc, .ref qp, .int 0, .int (-1), .int 0, .null])), (qu, .inr (1, [.int 0, .ref eu, .int 0]))]) hD hS hA [2, 3] rfl
  refine va_calli (va_runV (As := [.int 8]) (rest := [.int 8, .ref q_1]) ⟨hx, hb, hml, hown, hts⟩ (g_X8_isOn l D m0 qu qs qc qp th eu 8 _ ) (z_cV 1 hE zw_1243 zw_1245 zw_63 zw_96 zw_1246 rfl rfl rfl (by decide +kernel) ⟨(Nat.le_of_ble_eq_true rfl), (Nat.le_of_ble_eq_true rfl)⟩) ⟨hb_30, va_recv hK hP (ci := 10) (q0 := 2) rfl rfl, hc_30⟩ rfl rfl hl.1 rfl (lv_room (Nat.le_of_ble_eq_true rfl)) dX8_programmes_22 ⟨(Nat.le_of_ble_eq_true rfl), (Nat.le_of_ble_eq_true rfl)⟩) hS (fun q _ h => hF_30 q h) hF_30 (fun r_30 u_30 t_30 H1 locs ht_30 hvm_30 hw_30 hB_30 hz_30 hk_30 hS1 => ?_)
  obtain ⟨hP, hK, hD⟩ := z_back (wc := [(m0, .inr (10, [.int th, .ref qu, .ref qs, .ref qc, .ref qp, .int 0, .int (-1), .int 0, .null])), (qu, .inr (1, [.int 0, .ref eu, .int 0]))]) (wr := [(q_1, .inl (cA_2, 10, .inl (upd (upd (upd (upd (upd (upd (upd (upd (fun _ => 0) (0 : Int32).toNatClampNeg 0) (1 : Int32).toNatClampNeg 0) (2 : Int32).toNatClampNeg 0) (3 : Int32).toNatClampNeg 0) (4 : Int32).toNatClampNeg 0) (5 : Int32).toNatClampNeg 0) (6 : Int32).toNatClampNeg 0) (7 : Int32).toNatClampNeg 0))), (q_3, .inl (cA_4, 10, .inl (upd (upd (upd (upd (upd (upd (upd (upd (fun _ => 0) (0 : Int32).toNatClampNeg (-1)) (1 : Int32).toNatClampNeg (-1)) (2 : Int32).toNatClampNeg (-1)) (3 : Int32).toNatClampNeg (-1)) (4 : Int32).toNatClampNeg (-1)) (5 : Int32).toNatClampNeg (-1)) (6 : Int32).toNatClampNeg (-1)) (7 : Int32).toNatClampNeg (-1))))]) (w1 := [(m0, .inr (10, [.int th, .ref qu, .ref qs, .ref qc, .ref qp, .int 0, .int (-1), .int 0, .null])), (qu, .inr (1, [.int 0, .ref eu, .int 0]))]) (tr := [(cA_2, .int), (cA_4, .int)]) hP hK hD [2, 3] [0, 1] rfl rfl rfl (by decide) ht_30 hvm_30 hk_30 hF_30 [0, 1] rfl hB_30
  have hS := hS1
  have hP : va_P D vwCl [(q_1, .inl (cA_2, 10, .inl (upd (upd (upd (upd (upd (upd (upd (upd (fun _ => 0) (0 : Int32).toNatClampNeg 0) (1 : Int32).toNatClampNeg 0) (2 : Int32).toNatClampNeg 0) (3 : Int32).toNatClampNeg 0) (4 : Int32).toNatClampNeg 0) (5 : Int32).toNatClampNeg 0) (6 : Int32).toNatClampNeg 0) (7 : Int32).toNatClampNeg 0))), (q_3, .inl (cA_4, 10, .inl (upd (upd (upd (upd (upd (upd (upd (upd (fun _ => 0) (0 : Int32).toNatClampNeg (-1)) (1 : Int32).toNatClampNeg (-1)) (2 : Int32).toNatClampNeg (-1)) (3 : Int32).toNatClampNeg (-1)) (4 : Int32).toNatClampNeg (-1)) (5 : Int32).toNatClampNeg (-1)) (6 : Int32).toNatClampNeg (-1)) (7 : Int32).toNatClampNeg (-1)))), (m0, .inr (10, [.int th, .ref qu, .ref qs, .ref qc, .ref qp, .int 0, .int (-1), .int 0, .null])), (qu, .inr (1, [.int 0, .ref eu, .int 0]))] H1 := hP
  have hD : va_D A [(q_1, .inl (cA_2, 10, .inl (upd (upd (upd (upd (upd (upd (upd (upd (fun _ => 0) (0 : Int32).toNatClampNeg 0) (1 : Int32).toNatClampNeg 0) (2 : Int32).toNatClampNeg 0) (3 : Int32).toNatClampNeg 0) (4 : Int32).toNatClampNeg 0) (5 : Int32).toNatClampNeg 0) (6 : Int32).toNatClampNeg 0) (7 : Int32).toNatClampNeg 0))), (q_3, .inl (cA_4, 10, .inl (upd (upd (upd (upd (upd (upd (upd (upd (fun _ => 0) (0 : Int32).toNatClampNeg (-1)) (1 : Int32).toNatClampNeg (-1)) (2 : Int32).toNatClampNeg (-1)) (3 : Int32).toNatClampNeg (-1)) (4 : Int32).toNatClampNeg (-1)) (5 : Int32).toNatClampNeg (-1)) (6 : Int32).toNatClampNeg (-1)) (7 : Int32).toNatClampNeg (-1)))), (m0, .inr (10, [.int th, .ref qu, .ref qs, .ref qc, .ref qp, .int 0, .int (-1), .int 0, .null])), (qu, .inr (1, [.int 0, .ref eu, .int 0]))] := hD
  have hK : va_K D vwCl [(cA_2, .int), (cA_4, .int)] s := hK
  clear hS1
  obtain rfl : r_30 = 0 := hw_30
  refine lv_if_eq (tgt := 45) hx hb dX8_programmes_25 (by decide) (fun c_31 => ?_) (fun c_31 => absurd (by decide) c_31)
  refine lv_iconst (v := 0) hx hb dX8_programmes_45 (by decide) ?_
  refine va_iast hx hb hK hP hD hS 0 0 rfl rfl (i := 8) (by unfold vp_in; decide) dX8_programmes_46 (fun H locs hP hD hS => ?_)
  have hP : va_P D vwCl [(q_1, .inl (cA_2, 10, .inl (upd (upd (upd (upd (upd (upd (upd (upd (upd (fun _ => 0) (0 : Int32).toNatClampNeg 0) (1 : Int32).toNatClampNeg 0) (2 : Int32).toNatClampNeg 0) (3 : Int32).toNatClampNeg 0) (4 : Int32).toNatClampNeg 0) (5 : Int32).toNatClampNeg 0) (6 : Int32).toNatClampNeg 0) (7 : Int32).toNatClampNeg 0) (8 : Int32).toNatClampNeg 0))), (q_3, .inl (cA_4, 10, .inl (upd (upd (upd (upd (upd (upd (upd (upd (fun _ => 0) (0 : Int32).toNatClampNeg (-1)) (1 : Int32).toNatClampNeg (-1)) (2 : Int32).toNatClampNeg (-1)) (3 : Int32).toNatClampNeg (-1)) (4 : Int32).toNatClampNeg (-1)) (5 : Int32).toNatClampNeg (-1)) (6 : Int32).toNatClampNeg (-1)) (7 : Int32).toNatClampNeg (-1)))), (m0, .inr (10, [.int th, .ref qu, .ref qs, .ref qc, .ref qp, .int 0, .int (-1), .int 0, .null])), (qu, .inr (1, [.int 0, .ref eu, .int 0]))] H := hP
  have hD : va_D A [(q_1, .inl (cA_2, 10, .inl (upd (upd (upd (upd (upd (upd (upd (upd (upd (fun _ => 0) (0 : Int32).toNatClampNeg 0) (1 : Int32).toNatClampNeg 0) (2 : Int32).toNatClampNeg 0) (3 : Int32).toNatClampNeg 0) (4 : Int32).toNatClampNeg 0) (5 : Int32).toNatClampNeg 0) (6 : Int32).toNatClampNeg 0) (7 : Int32).toNatClampNeg 0) (8 : Int32).toNatClampNeg 0))), (q_3, .inl (cA_4, 10, .inl (upd (upd (upd (upd (upd (upd (upd (upd (fun _ => 0) (0 : Int32).toNatClampNeg (-1)) (1 : Int32).toNatClampNeg (-1)) (2 : Int32).toNatClampNeg (-1)) (3 : Int32).toNatClampNeg (-1)) (4 : Int32).toNatClampNeg (-1)) (5 : Int32).toNatClampNeg (-1)) (6 : Int32).toNatClampNeg (-1)) (7 : Int32).toNatClampNeg (-1)))), (m0, .inr (10, [.int th, .ref qu, .ref qs, .ref qc, .ref qp, .int 0, .int (-1), .int 0, .null])), (qu, .inr (1, [.int 0, .ref eu, .int 0]))] := hD
  refine lv_aload_n hx hb dX8_programmes_47 rfl (lv_at hl 1 rfl) ?_
  refine lv_iload_n hx hb dX8_programmes_48 rfl (lv_at hl 0 rfl) ?_
  refine lv_iconst (v := -1) hx hb dX8_programmes_49 (by decide) ?_
  refine va_iast hx hb hK hP hD hS 1 1 rfl rfl (i := 8) (by unfold vp_in; decide) dX8_programmes_50 (fun H locs hP hD hS => ?_)
  have hP : va_P D vwCl [(q_1, .inl (cA_2, 10, .inl (upd (upd (upd (upd (upd (upd (upd (upd (upd (fun _ => 0) (0 : Int32).toNatClampNeg 0) (1 : Int32).toNatClampNeg 0) (2 : Int32).toNatClampNeg 0) (3 : Int32).toNatClampNeg 0) (4 : Int32).toNatClampNeg 0) (5 : Int32).toNatClampNeg 0) (6 : Int32).toNatClampNeg 0) (7 : Int32).toNatClampNeg 0) (8 : Int32).toNatClampNeg 0))), (q_3, .inl (cA_4, 10, .inl (upd (upd (upd (upd (upd (upd (upd (upd (upd (fun _ => 0) (0 : Int32).toNatClampNeg (-1)) (1 : Int32).toNatClampNeg (-1)) (2 : Int32).toNatClampNeg (-1)) (3 : Int32).toNatClampNeg (-1)) (4 : Int32).toNatClampNeg (-1)) (5 : Int32).toNatClampNeg (-1)) (6 : Int32).toNatClampNeg (-1)) (7 : Int32).toNatClampNeg (-1)) (8 : Int32).toNatClampNeg (-1)))), (m0, .inr (10, [.int th, .ref qu, .ref qs, .ref qc, .ref qp, .int 0, .int (-1), .int 0, .null])), (qu, .inr (1, [.int 0, .ref eu, .int 0]))] H := hP
  have hD : va_D A [(q_1, .inl (cA_2, 10, .inl (upd (upd (upd (upd (upd (upd (upd (upd (upd (fun _ => 0) (0 : Int32).toNatClampNeg 0) (1 : Int32).toNatClampNeg 0) (2 : Int32).toNatClampNeg 0) (3 : Int32).toNatClampNeg 0) (4 : Int32).toNatClampNeg 0) (5 : Int32).toNatClampNeg 0) (6 : Int32).toNatClampNeg 0) (7 : Int32).toNatClampNeg 0) (8 : Int32).toNatClampNeg 0))), (q_3, .inl (cA_4, 10, .inl (upd (upd (upd (upd (upd (upd (upd (upd (upd (fun _ => 0) (0 : Int32).toNatClampNeg (-1)) (1 : Int32).toNatClampNeg (-1)) (2 : Int32).toNatClampNeg (-1)) (3 : Int32).toNatClampNeg (-1)) (4 : Int32).toNatClampNeg (-1)) (5 : Int32).toNatClampNeg (-1)) (6 : Int32).toNatClampNeg (-1)) (7 : Int32).toNatClampNeg (-1)) (8 : Int32).toNatClampNeg (-1)))), (m0, .inr (10, [.int th, .ref qu, .ref qs, .ref qc, .ref qp, .int 0, .int (-1), .int 0, .null])), (qu, .inr (1, [.int 0, .ref eu, .int 0]))] := hD
  refine lv_iinc (v := 9) (lv' := [(3, .int 9), (2, .ref q_3), (1, .ref q_1), (0, .ref m0)]) hx hb dX8_programmes_51 hl (k := 0) rfl (by decide) (by decide) rfl (fun ls hl => ?_)
  refine lv_goto (tgt := 12) hx hb dX8_programmes_54 (by decide) ?_
  refine lv_iload_n hx hb dX8_programmes_12 rfl (lv_at hl 0 rfl) ?_
  refine lv_bipush (v := 10) hx hb dX8_programmes_13 (by decide) ?_
  refine lv_icmp_ge (tgt := 57) hx hb dX8_programmes_15 (by decide) (fun c_32 => absurd c_32 (by decide)) (fun c_32 => ?_)
  refine lv_aload_n hx hb dX8_programmes_18 rfl (lv_at hl 2 rfl) ?_
  refine lv_iload_n hx hb dX8_programmes_19 rfl (lv_at hl 0 rfl) ?_
  refine lv_aload_n hx hb dX8_programmes_20 rfl (lv_at hl 3 rfl) ?_
  refine lv_iload_n hx hb dX8_programmes_21 rfl (lv_at hl 0 rfl) ?_
  obtain ⟨hb_33, hc_33⟩ := z_call (wc := [(m0, .inr (10, [.int th, .ref qu, .ref qs, .ref qc, .ref qp, .int 0, .int (-1), .int 0, .null])), (qu, .inr (1, [.int 0, .ref eu, .int 0]))]) (tc := []) ([.ref m0, .int 9]) hP hK hD hS hA hE hX [2, 3] rfl rfl [] rfl
  have hF_33 := va_free (wc := [(m0, .inr (10, [.int th, .ref qu, .ref qs, .ref qc, .ref qp, .int 0, .int (-1), .int 0, .null])), (qu, .inr (1, [.int 0, .ref eu, .int 0]))]) hD hS hA [2, 3] rfl
  refine va_calli (va_runV (As := [.int 9]) (rest := [.int 9, .ref q_1]) ⟨hx, hb, hml, hown, hts⟩ (g_X8_isOn l D m0 qu qs qc qp th eu 9 _ ) (z_cV 1 hE zw_1243 zw_1245 zw_63 zw_96 zw_1246 rfl rfl rfl (by decide +kernel) ⟨(Nat.le_of_ble_eq_true rfl), (Nat.le_of_ble_eq_true rfl)⟩) ⟨hb_33, va_recv hK hP (ci := 10) (q0 := 2) rfl rfl, hc_33⟩ rfl rfl hl.1 rfl (lv_room (Nat.le_of_ble_eq_true rfl)) dX8_programmes_22 ⟨(Nat.le_of_ble_eq_true rfl), (Nat.le_of_ble_eq_true rfl)⟩) hS (fun q _ h => hF_33 q h) hF_33 (fun r_33 u_33 t_33 H1 locs ht_33 hvm_33 hw_33 hB_33 hz_33 hk_33 hS1 => ?_)
  obtain ⟨hP, hK, hD⟩ := z_back (wc := [(m0, .inr (10, [.int th, .ref qu, .ref qs, .ref qc, .ref qp, .int 0, .int (-1), .int 0, .null])), (qu, .inr (1, [.int 0, .ref eu, .int 0]))]) (wr := [(q_1, .inl (cA_2, 10, .inl (upd (upd (upd (upd (upd (upd (upd (upd (upd (fun _ => 0) (0 : Int32).toNatClampNeg 0) (1 : Int32).toNatClampNeg 0) (2 : Int32).toNatClampNeg 0) (3 : Int32).toNatClampNeg 0) (4 : Int32).toNatClampNeg 0) (5 : Int32).toNatClampNeg 0) (6 : Int32).toNatClampNeg 0) (7 : Int32).toNatClampNeg 0) (8 : Int32).toNatClampNeg 0))), (q_3, .inl (cA_4, 10, .inl (upd (upd (upd (upd (upd (upd (upd (upd (upd (fun _ => 0) (0 : Int32).toNatClampNeg (-1)) (1 : Int32).toNatClampNeg (-1)) (2 : Int32).toNatClampNeg (-1)) (3 : Int32).toNatClampNeg (-1)) (4 : Int32).toNatClampNeg (-1)) (5 : Int32).toNatClampNeg (-1)) (6 : Int32).toNatClampNeg (-1)) (7 : Int32).toNatClampNeg (-1)) (8 : Int32).toNatClampNeg (-1))))]) (w1 := [(m0, .inr (10, [.int th, .ref qu, .ref qs, .ref qc, .ref qp, .int 0, .int (-1), .int 0, .null])), (qu, .inr (1, [.int 0, .ref eu, .int 0]))]) (tr := [(cA_2, .int), (cA_4, .int)]) hP hK hD [2, 3] [0, 1] rfl rfl rfl (by decide) ht_33 hvm_33 hk_33 hF_33 [0, 1] rfl hB_33
  have hS := hS1
  have hP : va_P D vwCl [(q_1, .inl (cA_2, 10, .inl (upd (upd (upd (upd (upd (upd (upd (upd (upd (fun _ => 0) (0 : Int32).toNatClampNeg 0) (1 : Int32).toNatClampNeg 0) (2 : Int32).toNatClampNeg 0) (3 : Int32).toNatClampNeg 0) (4 : Int32).toNatClampNeg 0) (5 : Int32).toNatClampNeg 0) (6 : Int32).toNatClampNeg 0) (7 : Int32).toNatClampNeg 0) (8 : Int32).toNatClampNeg 0))), (q_3, .inl (cA_4, 10, .inl (upd (upd (upd (upd (upd (upd (upd (upd (upd (fun _ => 0) (0 : Int32).toNatClampNeg (-1)) (1 : Int32).toNatClampNeg (-1)) (2 : Int32).toNatClampNeg (-1)) (3 : Int32).toNatClampNeg (-1)) (4 : Int32).toNatClampNeg (-1)) (5 : Int32).toNatClampNeg (-1)) (6 : Int32).toNatClampNeg (-1)) (7 : Int32).toNatClampNeg (-1)) (8 : Int32).toNatClampNeg (-1)))), (m0, .inr (10, [.int th, .ref qu, .ref qs, .ref qc, .ref qp, .int 0, .int (-1), .int 0, .null])), (qu, .inr (1, [.int 0, .ref eu, .int 0]))] H1 := hP
  have hD : va_D A [(q_1, .inl (cA_2, 10, .inl (upd (upd (upd (upd (upd (upd (upd (upd (upd (fun _ => 0) (0 : Int32).toNatClampNeg 0) (1 : Int32).toNatClampNeg 0) (2 : Int32).toNatClampNeg 0) (3 : Int32).toNatClampNeg 0) (4 : Int32).toNatClampNeg 0) (5 : Int32).toNatClampNeg 0) (6 : Int32).toNatClampNeg 0) (7 : Int32).toNatClampNeg 0) (8 : Int32).toNatClampNeg 0))), (q_3, .inl (cA_4, 10, .inl (upd (upd (upd (upd (upd (upd (upd (upd (upd (fun _ => 0) (0 : Int32).toNatClampNeg (-1)) (1 : Int32).toNatClampNeg (-1)) (2 : Int32).toNatClampNeg (-1)) (3 : Int32).toNatClampNeg (-1)) (4 : Int32).toNatClampNeg (-1)) (5 : Int32).toNatClampNeg (-1)) (6 : Int32).toNatClampNeg (-1)) (7 : Int32).toNatClampNeg (-1)) (8 : Int32).toNatClampNeg (-1)))), (m0, .inr (10, [.int th, .ref qu, .ref qs, .ref qc, .ref qp, .int 0, .int (-1), .int 0, .null])), (qu, .inr (1, [.int 0, .ref eu, .int 0]))] := hD
  have hK : va_K D vwCl [(cA_2, .int), (cA_4, .int)] s := hK
  clear hS1
  obtain rfl : r_33 = 0 := hw_33
  refine lv_if_eq (tgt := 45) hx hb dX8_programmes_25 (by decide) (fun c_34 => ?_) (fun c_34 => absurd (by decide) c_34)
  refine lv_iconst (v := 0) hx hb dX8_programmes_45 (by decide) ?_
  refine va_iast hx hb hK hP hD hS 0 0 rfl rfl (i := 9) (by unfold vp_in; decide) dX8_programmes_46 (fun H locs hP hD hS => ?_)
  have hP : va_P D vwCl [(q_1, .inl (cA_2, 10, .inl (upd (upd (upd (upd (upd (upd (upd (upd (upd (upd (fun _ => 0) (0 : Int32).toNatClampNeg 0) (1 : Int32).toNatClampNeg 0) (2 : Int32).toNatClampNeg 0) (3 : Int32).toNatClampNeg 0) (4 : Int32).toNatClampNeg 0) (5 : Int32).toNatClampNeg 0) (6 : Int32).toNatClampNeg 0) (7 : Int32).toNatClampNeg 0) (8 : Int32).toNatClampNeg 0) (9 : Int32).toNatClampNeg 0))), (q_3, .inl (cA_4, 10, .inl (upd (upd (upd (upd (upd (upd (upd (upd (upd (fun _ => 0) (0 : Int32).toNatClampNeg (-1)) (1 : Int32).toNatClampNeg (-1)) (2 : Int32).toNatClampNeg (-1)) (3 : Int32).toNatClampNeg (-1)) (4 : Int32).toNatClampNeg (-1)) (5 : Int32).toNatClampNeg (-1)) (6 : Int32).toNatClampNeg (-1)) (7 : Int32).toNatClampNeg (-1)) (8 : Int32).toNatClampNeg (-1)))), (m0, .inr (10, [.int th, .ref qu, .ref qs, .ref qc, .ref qp, .int 0, .int (-1), .int 0, .null])), (qu, .inr (1, [.int 0, .ref eu, .int 0]))] H := hP
  have hD : va_D A [(q_1, .inl (cA_2, 10, .inl (upd (upd (upd (upd (upd (upd (upd (upd (upd (upd (fun _ => 0) (0 : Int32).toNatClampNeg 0) (1 : Int32).toNatClampNeg 0) (2 : Int32).toNatClampNeg 0) (3 : Int32).toNatClampNeg 0) (4 : Int32).toNatClampNeg 0) (5 : Int32).toNatClampNeg 0) (6 : Int32).toNatClampNeg 0) (7 : Int32).toNatClampNeg 0) (8 : Int32).toNatClampNeg 0) (9 : Int32).toNatClampNeg 0))), (q_3, .inl (cA_4, 10, .inl (upd (upd (upd (upd (upd (upd (upd (upd (upd (fun _ => 0) (0 : Int32).toNatClampNeg (-1)) (1 : Int32).toNatClampNeg (-1)) (2 : Int32).toNatClampNeg (-1)) (3 : Int32).toNatClampNeg (-1)) (4 : Int32).toNatClampNeg (-1)) (5 : Int32).toNatClampNeg (-1)) (6 : Int32).toNatClampNeg (-1)) (7 : Int32).toNatClampNeg (-1)) (8 : Int32).toNatClampNeg (-1)))), (m0, .inr (10, [.int th, .ref qu, .ref qs, .ref qc, .ref qp, .int 0, .int (-1), .int 0, .null])), (qu, .inr (1, [.int 0, .ref eu, .int 0]))] := hD
  refine lv_aload_n hx hb dX8_programmes_47 rfl (lv_at hl 1 rfl) ?_
  refine lv_iload_n hx hb dX8_programmes_48 rfl (lv_at hl 0 rfl) ?_
  refine lv_iconst (v := -1) hx hb dX8_programmes_49 (by decide) ?_
  refine va_iast hx hb hK hP hD hS 1 1 rfl rfl (i := 9) (by unfold vp_in; decide) dX8_programmes_50 (fun H locs hP hD hS => ?_)
  have hP : va_P D vwCl [(q_1, .inl (cA_2, 10, .inl (upd (upd (upd (upd (upd (upd (upd (upd (upd (upd (fun _ => 0) (0 : Int32).toNatClampNeg 0) (1 : Int32).toNatClampNeg 0) (2 : Int32).toNatClampNeg 0) (3 : Int32).toNatClampNeg 0) (4 : Int32).toNatClampNeg 0) (5 : Int32).toNatClampNeg 0) (6 : Int32).toNatClampNeg 0) (7 : Int32).toNatClampNeg 0) (8 : Int32).toNatClampNeg 0) (9 : Int32).toNatClampNeg 0))), (q_3, .inl (cA_4, 10, .inl (upd (upd (upd (upd (upd (upd (upd (upd (upd (upd (fun _ => 0) (0 : Int32).toNatClampNeg (-1)) (1 : Int32).toNatClampNeg (-1)) (2 : Int32).toNatClampNeg (-1)) (3 : Int32).toNatClampNeg (-1)) (4 : Int32).toNatClampNeg (-1)) (5 : Int32).toNatClampNeg (-1)) (6 : Int32).toNatClampNeg (-1)) (7 : Int32).toNatClampNeg (-1)) (8 : Int32).toNatClampNeg (-1)) (9 : Int32).toNatClampNeg (-1)))), (m0, .inr (10, [.int th, .ref qu, .ref qs, .ref qc, .ref qp, .int 0, .int (-1), .int 0, .null])), (qu, .inr (1, [.int 0, .ref eu, .int 0]))] H := hP
  have hD : va_D A [(q_1, .inl (cA_2, 10, .inl (upd (upd (upd (upd (upd (upd (upd (upd (upd (upd (fun _ => 0) (0 : Int32).toNatClampNeg 0) (1 : Int32).toNatClampNeg 0) (2 : Int32).toNatClampNeg 0) (3 : Int32).toNatClampNeg 0) (4 : Int32).toNatClampNeg 0) (5 : Int32).toNatClampNeg 0) (6 : Int32).toNatClampNeg 0) (7 : Int32).toNatClampNeg 0) (8 : Int32).toNatClampNeg 0) (9 : Int32).toNatClampNeg 0))), (q_3, .inl (cA_4, 10, .inl (upd (upd (upd (upd (upd (upd (upd (upd (upd (upd (fun _ => 0) (0 : Int32).toNatClampNeg (-1)) (1 : Int32).toNatClampNeg (-1)) (2 : Int32).toNatClampNeg (-1)) (3 : Int32).toNatClampNeg (-1)) (4 : Int32).toNatClampNeg (-1)) (5 : Int32).toNatClampNeg (-1)) (6 : Int32).toNatClampNeg (-1)) (7 : Int32).toNatClampNeg (-1)) (8 : Int32).toNatClampNeg (-1)) (9 : Int32).toNatClampNeg (-1)))), (m0, .inr (10, [.int th, .ref qu, .ref qs, .ref qc, .ref qp, .int 0, .int (-1), .int 0, .null])), (qu, .inr (1, [.int 0, .ref eu, .int 0]))] := hD
  refine lv_iinc (v := 10) (lv' := [(3, .int 10), (2, .ref q_3), (1, .ref q_1), (0, .ref m0)]) hx hb dX8_programmes_51 hl (k := 0) rfl (by decide) (by decide) rfl (fun ls hl => ?_)
  refine lv_goto (tgt := 12) hx hb dX8_programmes_54 (by decide) ?_
  refine lv_iload_n hx hb dX8_programmes_12 rfl (lv_at hl 0 rfl) ?_
  refine lv_bipush (v := 10) hx hb dX8_programmes_13 (by decide) ?_
  refine lv_icmp_ge (tgt := 57) hx hb dX8_programmes_15 (by decide) (fun c_35 => ?_) (fun c_35 => absurd (by decide) c_35)
  refine lv_aload_n hx hb dX8_programmes_57 rfl (lv_at hl 3 rfl) ?_
  refine lv_ldcw hx hb hown (hts _ zw_1692) dX8_programmes_58 ?_
  refine va_put (D := D) (ci := 10) (v := .int 2147483647) (ty := .int) (C := RX8) (T := TX8) (N := 9) hx hb hts zin_X8 tyX8 tyX8_ok nmX8 hown hK hP hD hS 2 rfl rfl 7 (by decide) (hts _ zw_1087) (fun _ h9 => h9) rfl (by decide +kernel) rfl rfl (Nat.le_of_ble_eq_true rfl) dX8_programmes_61 (fun H locs hP hD hS => ?_)
  have hP : va_P D vwCl [(q_1, .inl (cA_2, 10, .inl (upd (upd (upd (upd (upd (upd (upd (upd (upd (upd (fun _ => 0) (0 : Int32).toNatClampNeg 0) (1 : Int32).toNatClampNeg 0) (2 : Int32).toNatClampNeg 0) (3 : Int32).toNatClampNeg 0) (4 : Int32).toNatClampNeg 0) (5 : Int32).toNatClampNeg 0) (6 : Int32).toNatClampNeg 0) (7 : Int32).toNatClampNeg 0) (8 : Int32).toNatClampNeg 0) (9 : Int32).toNatClampNeg 0))), (q_3, .inl (cA_4, 10, .inl (upd (upd (upd (upd (upd (upd (upd (upd (upd (upd (fun _ => 0) (0 : Int32).toNatClampNeg (-1)) (1 : Int32).toNatClampNeg (-1)) (2 : Int32).toNatClampNeg (-1)) (3 : Int32).toNatClampNeg (-1)) (4 : Int32).toNatClampNeg (-1)) (5 : Int32).toNatClampNeg (-1)) (6 : Int32).toNatClampNeg (-1)) (7 : Int32).toNatClampNeg (-1)) (8 : Int32).toNatClampNeg (-1)) (9 : Int32).toNatClampNeg (-1)))), (m0, .inr (10, [.int th, .ref qu, .ref qs, .ref qc, .ref qp, .int 0, .int (-1), .int 2147483647, .null])), (qu, .inr (1, [.int 0, .ref eu, .int 0]))] H := hP
  have hD : va_D A [(q_1, .inl (cA_2, 10, .inl (upd (upd (upd (upd (upd (upd (upd (upd (upd (upd (fun _ => 0) (0 : Int32).toNatClampNeg 0) (1 : Int32).toNatClampNeg 0) (2 : Int32).toNatClampNeg 0) (3 : Int32).toNatClampNeg 0) (4 : Int32).toNatClampNeg 0) (5 : Int32).toNatClampNeg 0) (6 : Int32).toNatClampNeg 0) (7 : Int32).toNatClampNeg 0) (8 : Int32).toNatClampNeg 0) (9 : Int32).toNatClampNeg 0))), (q_3, .inl (cA_4, 10, .inl (upd (upd (upd (upd (upd (upd (upd (upd (upd (upd (fun _ => 0) (0 : Int32).toNatClampNeg (-1)) (1 : Int32).toNatClampNeg (-1)) (2 : Int32).toNatClampNeg (-1)) (3 : Int32).toNatClampNeg (-1)) (4 : Int32).toNatClampNeg (-1)) (5 : Int32).toNatClampNeg (-1)) (6 : Int32).toNatClampNeg (-1)) (7 : Int32).toNatClampNeg (-1)) (8 : Int32).toNatClampNeg (-1)) (9 : Int32).toNatClampNeg (-1)))), (m0, .inr (10, [.int th, .ref qu, .ref qs, .ref qc, .ref qp, .int 0, .int (-1), .int 2147483647, .null])), (qu, .inr (1, [.int 0, .ref eu, .int 0]))] := hD
  refine lv_aload_n hx hb dX8_programmes_64 rfl (lv_at hl 3 rfl) ?_
  refine lv_aload_n hx hb dX8_programmes_65 rfl (lv_at hl 1 rfl) ?_
  refine va_put (D := D) (ci := 10) (v := .ref q_3) (ty := .array .int) (C := RX8) (T := TX8) (N := 9) hx hb hts zin_X8 tyX8 tyX8_ok nmX8 hown hK hP hD hS 2 rfl rfl 8 (by decide) (hts _ zw_1088) (fun _ h9 => h9) rfl (by decide +kernel) rfl rfl (Nat.le_of_ble_eq_true rfl) dX8_programmes_66 (fun H locs hP hD hS => ?_)
  have hP : va_P D vwCl [(q_1, .inl (cA_2, 10, .inl (upd (upd (upd (upd (upd (upd (upd (upd (upd (upd (fun _ => 0) (0 : Int32).toNatClampNeg 0) (1 : Int32).toNatClampNeg 0) (2 : Int32).toNatClampNeg 0) (3 : Int32).toNatClampNeg 0) (4 : Int32).toNatClampNeg 0) (5 : Int32).toNatClampNeg 0) (6 : Int32).toNatClampNeg 0) (7 : Int32).toNatClampNeg 0) (8 : Int32).toNatClampNeg 0) (9 : Int32).toNatClampNeg 0))), (q_3, .inl (cA_4, 10, .inl (upd (upd (upd (upd (upd (upd (upd (upd (upd (upd (fun _ => 0) (0 : Int32).toNatClampNeg (-1)) (1 : Int32).toNatClampNeg (-1)) (2 : Int32).toNatClampNeg (-1)) (3 : Int32).toNatClampNeg (-1)) (4 : Int32).toNatClampNeg (-1)) (5 : Int32).toNatClampNeg (-1)) (6 : Int32).toNatClampNeg (-1)) (7 : Int32).toNatClampNeg (-1)) (8 : Int32).toNatClampNeg (-1)) (9 : Int32).toNatClampNeg (-1)))), (m0, .inr (10, [.int th, .ref qu, .ref qs, .ref qc, .ref qp, .int 0, .int (-1), .int 2147483647, .ref q_3])), (qu, .inr (1, [.int 0, .ref eu, .int 0]))] H := hP
  have hD : va_D A [(q_1, .inl (cA_2, 10, .inl (upd (upd (upd (upd (upd (upd (upd (upd (upd (upd (fun _ => 0) (0 : Int32).toNatClampNeg 0) (1 : Int32).toNatClampNeg 0) (2 : Int32).toNatClampNeg 0) (3 : Int32).toNatClampNeg 0) (4 : Int32).toNatClampNeg 0) (5 : Int32).toNatClampNeg 0) (6 : Int32).toNatClampNeg 0) (7 : Int32).toNatClampNeg 0) (8 : Int32).toNatClampNeg 0) (9 : Int32).toNatClampNeg 0))), (q_3, .inl (cA_4, 10, .inl (upd (upd (upd (upd (upd (upd (upd (upd (upd (upd (fun _ => 0) (0 : Int32).toNatClampNeg (-1)) (1 : Int32).toNatClampNeg (-1)) (2 : Int32).toNatClampNeg (-1)) (3 : Int32).toNatClampNeg (-1)) (4 : Int32).toNatClampNeg (-1)) (5 : Int32).toNatClampNeg (-1)) (6 : Int32).toNatClampNeg (-1)) (7 : Int32).toNatClampNeg (-1)) (8 : Int32).toNatClampNeg (-1)) (9 : Int32).toNatClampNeg (-1)))), (m0, .inr (10, [.int th, .ref qu, .ref qs, .ref qc, .ref qp, .int 0, .int (-1), .int 2147483647, .ref q_3])), (qu, .inr (1, [.int 0, .ref eu, .int 0]))] := hD
  refine lv_aload_n hx hb dX8_programmes_69 rfl (lv_at hl 3 rfl) ?_
  refine lv_iconst (v := 0) hx hb dX8_programmes_70 (by decide) ?_
  refine lv_aload_n hx hb dX8_programmes_71 rfl (lv_at hl 2 rfl) ?_
  refine lv_aload_n hx hb dX8_programmes_72 rfl (lv_at hl 1 rfl) ?_
  obtain ⟨hb_36, hc_36⟩ := z_call (wc := [(m0, .inr (10, [.int th, .ref qu, .ref qs, .ref qc, .ref qp, .int 0, .int (-1), .int 2147483647, .ref q_3])), (qu, .inr (1, [.int 0, .ref eu, .int 0]))]) (tc := []) ([.ref m0, .int 0, .ref q_1, .ref q_3]) hP hK hD hS hA hE hX [2, 3] rfl rfl [] rfl
  have hF_36 := va_free (wc := [(m0, .inr (10, [.int th, .ref qu, .ref qs, .ref qc, .ref qp, .int 0, .int (-1), .int 2147483647, .ref q_3])), (qu, .inr (1, [.int 0, .ref eu, .int 0]))]) hD hS hA [2, 3] rfl
  refine va_callv (va_runV (As := [.int 0, .ref q_1, .ref q_3]) (rest := []) ⟨hx, hb, hml, hown, hts⟩ (g_X8_goes l D m0 qu qs qc qp th eu q_1 q_3 _ ) (z_cV 3 hE zw_1693 zw_1695 zw_86 zw_96 zw_1696 rfl rfl rfl (by decide +kernel) ⟨(Nat.le_of_ble_eq_true rfl), (Nat.le_of_ble_eq_true rfl)⟩) ⟨hb_36, va_recv hK hP (ci := 10) (q0 := 2) rfl rfl, hc_36⟩ rfl rfl hl.1 rfl (lv_room (Nat.le_of_ble_eq_true rfl)) dX8_programmes_73 ⟨(Nat.le_of_ble_eq_true rfl), (Nat.le_of_ble_eq_true rfl)⟩) hS (fun q _ h => hF_36 q h) hF_36 (fun u_36 t_36 H1 locs ht_36 hvm_36 hw_36 hB_36 hz_36 hk_36 hS1 => ?_)
  obtain ⟨hP, hK, hD⟩ := z_back (wc := [(m0, .inr (10, [.int th, .ref qu, .ref qs, .ref qc, .ref qp, .int 0, .int (-1), .int 2147483647, .ref q_3])), (qu, .inr (1, [.int 0, .ref eu, .int 0]))]) (wr := [(q_1, .inl (cA_2, 10, .inl (upd (upd (upd (upd (upd (upd (upd (upd (upd (upd (fun _ => 0) (0 : Int32).toNatClampNeg 0) (1 : Int32).toNatClampNeg 0) (2 : Int32).toNatClampNeg 0) (3 : Int32).toNatClampNeg 0) (4 : Int32).toNatClampNeg 0) (5 : Int32).toNatClampNeg 0) (6 : Int32).toNatClampNeg 0) (7 : Int32).toNatClampNeg 0) (8 : Int32).toNatClampNeg 0) (9 : Int32).toNatClampNeg 0))), (q_3, .inl (cA_4, 10, .inl (upd (upd (upd (upd (upd (upd (upd (upd (upd (upd (fun _ => 0) (0 : Int32).toNatClampNeg (-1)) (1 : Int32).toNatClampNeg (-1)) (2 : Int32).toNatClampNeg (-1)) (3 : Int32).toNatClampNeg (-1)) (4 : Int32).toNatClampNeg (-1)) (5 : Int32).toNatClampNeg (-1)) (6 : Int32).toNatClampNeg (-1)) (7 : Int32).toNatClampNeg (-1)) (8 : Int32).toNatClampNeg (-1)) (9 : Int32).toNatClampNeg (-1))))]) (w1 := [(m0, .inr (10, [.int th, .ref qu, .ref qs, .ref qc, .ref qp, .int 0, .int (-1), .int 0, .ref q_3])), (qu, .inr (1, [.int 0, .ref eu, .int 0]))]) (tr := [(cA_2, .int), (cA_4, .int)]) hP hK hD [2, 3] [0, 1] rfl rfl rfl (by decide) ht_36 hvm_36 hk_36 hF_36 [0, 1] rfl hB_36
  have hS := hS1
  have hP : va_P D vwCl [(q_1, .inl (cA_2, 10, .inl (upd (upd (upd (upd (upd (upd (upd (upd (upd (upd (fun _ => 0) (0 : Int32).toNatClampNeg 0) (1 : Int32).toNatClampNeg 0) (2 : Int32).toNatClampNeg 0) (3 : Int32).toNatClampNeg 0) (4 : Int32).toNatClampNeg 0) (5 : Int32).toNatClampNeg 0) (6 : Int32).toNatClampNeg 0) (7 : Int32).toNatClampNeg 0) (8 : Int32).toNatClampNeg 0) (9 : Int32).toNatClampNeg 0))), (q_3, .inl (cA_4, 10, .inl (upd (upd (upd (upd (upd (upd (upd (upd (upd (upd (fun _ => 0) (0 : Int32).toNatClampNeg (-1)) (1 : Int32).toNatClampNeg (-1)) (2 : Int32).toNatClampNeg (-1)) (3 : Int32).toNatClampNeg (-1)) (4 : Int32).toNatClampNeg (-1)) (5 : Int32).toNatClampNeg (-1)) (6 : Int32).toNatClampNeg (-1)) (7 : Int32).toNatClampNeg (-1)) (8 : Int32).toNatClampNeg (-1)) (9 : Int32).toNatClampNeg (-1)))), (m0, .inr (10, [.int th, .ref qu, .ref qs, .ref qc, .ref qp, .int 0, .int (-1), .int 0, .ref q_3])), (qu, .inr (1, [.int 0, .ref eu, .int 0]))] H1 := hP
  have hD : va_D A [(q_1, .inl (cA_2, 10, .inl (upd (upd (upd (upd (upd (upd (upd (upd (upd (upd (fun _ => 0) (0 : Int32).toNatClampNeg 0) (1 : Int32).toNatClampNeg 0) (2 : Int32).toNatClampNeg 0) (3 : Int32).toNatClampNeg 0) (4 : Int32).toNatClampNeg 0) (5 : Int32).toNatClampNeg 0) (6 : Int32).toNatClampNeg 0) (7 : Int32).toNatClampNeg 0) (8 : Int32).toNatClampNeg 0) (9 : Int32).toNatClampNeg 0))), (q_3, .inl (cA_4, 10, .inl (upd (upd (upd (upd (upd (upd (upd (upd (upd (upd (fun _ => 0) (0 : Int32).toNatClampNeg (-1)) (1 : Int32).toNatClampNeg (-1)) (2 : Int32).toNatClampNeg (-1)) (3 : Int32).toNatClampNeg (-1)) (4 : Int32).toNatClampNeg (-1)) (5 : Int32).toNatClampNeg (-1)) (6 : Int32).toNatClampNeg (-1)) (7 : Int32).toNatClampNeg (-1)) (8 : Int32).toNatClampNeg (-1)) (9 : Int32).toNatClampNeg (-1)))), (m0, .inr (10, [.int th, .ref qu, .ref qs, .ref qc, .ref qp, .int 0, .int (-1), .int 0, .ref q_3])), (qu, .inr (1, [.int 0, .ref eu, .int 0]))] := hD
  have hK : va_K D vwCl [(cA_2, .int), (cA_4, .int)] s := hK
  clear hS1
  exact W.vret hx hb hr (fun t ht hW => ⟨⟨(), rfl, trivial, ⟨q_3, z_end hP hK hD [2, 3] rfl rfl [] rfl ht hW.alike⟩⟩, hS.F ht⟩) hS.2.2 dX8_programmes_76
theorem dX8_shortest_0 : decode cX8_shortest 0 = .ok (.aload_n 0, 1) := by decide +kernel
theorem dX8_shortest_1 : decode cX8_shortest 1 = .ok (.aload_n 0, 1) := by decide +kernel
theorem dX8_shortest_2 : decode cX8_shortest 2 = .ok (.invokevirtual 292, 3) := by decide +kernel
theorem zw_1684 : Cond.methodLink RX8 292 yX8_noProgramme ∈ z_Ts := z_m 1684 (by decide +kernel) (by decide +kernel)
theorem zw_1686 : Cond.instanceMethod yX8_noProgramme ∈ z_Ts := z_m 1686 (by decide +kernel) (by decide +kernel)
theorem zw_84 : Cond.selects RX8 yX8_noProgramme yX8_noProgramme ∈ z_Ts := z_m 84 (by decide +kernel) (by decide +kernel)
theorem zw_1687 : Cond.code yX8_noProgramme cX8_noProgramme 4 (some .boolean) ∈ z_Ts := z_m 1687 (by decide +kernel) (by decide +kernel)
theorem dX8_shortest_5 : decode cX8_shortest 5 = .ok (.ifCond .eq 7, 3) := by decide +kernel
theorem dX8_shortest_12 : decode cX8_shortest 12 = .ok (.iconst 0, 1) := by decide +kernel
theorem dX8_shortest_13 : decode cX8_shortest 13 = .ok (.putfield 30, 3) := by decide +kernel
theorem dX8_shortest_16 : decode cX8_shortest 16 = .ok (.aload_n 0, 1) := by decide +kernel
theorem dX8_shortest_17 : decode cX8_shortest 17 = .ok (.getfield 30, 3) := by decide +kernel
theorem dX8_shortest_20 : decode cX8_shortest 20 = .ok (.ifCond .le 5, 3) := by decide +kernel
theorem dX8_shortest_25 : decode cX8_shortest 25 = .ok (.aload_n 0, 1) := by decide +kernel
theorem dX8_shortest_26 : decode cX8_shortest 26 = .ok (.invokevirtual 295, 3) := by decide +kernel
theorem zw_1688 : Cond.methodLink RX8 295 yX8_programmes ∈ z_Ts := z_m 1688 (by decide +kernel) (by decide +kernel)
theorem zw_1690 : Cond.instanceMethod yX8_programmes ∈ z_Ts := z_m 1690 (by decide +kernel) (by decide +kernel)
theorem zw_85 : Cond.selects RX8 yX8_programmes yX8_programmes ∈ z_Ts := z_m 85 (by decide +kernel) (by decide +kernel)
theorem zw_1691 : Cond.code yX8_programmes cX8_programmes 4 none ∈ z_Ts := z_m 1691 (by decide +kernel) (by decide +kernel)
theorem dX8_shortest_29 : decode cX8_shortest 29 = .ok (.aload_n 0, 1) := by decide +kernel
theorem dX8_shortest_30 : decode cX8_shortest 30 = .ok (.getfield 286, 3) := by decide +kernel
theorem dX8_shortest_33 : decode cX8_shortest 33 = .ok (.ireturn, 1) := by decide +kernel
set_option maxHeartbeats 4000000 in
set_option maxRecDepth 100000 in
theorem g_X8_shortest (l : Launch) (D : va_G) (m0 : Nat) (qu : Nat) (qs : Nat) (qc : Nat) (qp : Nat) (th : Int32) (eu : Nat) (sz : Nat)  : Met l yX8_shortest [Cond.code yX8_shortest cX8_shortest 1 (some .int)] ({ frames := 5, cells := 3, slots := 24, locals := 180 }) (z_Pc D [.ref m0] [(m0, .inr (10, [.int th, .ref qu, .ref qs, .ref qc, .ref qp, .int 0, .int (-1), .int 0, .null])), (qu, .inr (1, [.int 0, .ref eu, .int 0]))] [] sz) (va_Qi (fun (r : Int32) (_ : Unit) => r = 0) (fun _ t => ∃ qb : Nat, z_W D [(m0, .inr (10, [.int 0, .ref qu, .ref qs, .ref qc, .ref qp, .int 0, .int (-1), .int 0, .ref qb])), (qu, .inr (1, [.int 0, .ref eu, .int 0]))] [] (va_A [(m0, .inr (10, [.int th, .ref qu, .ref qs, .ref qc, .ref qp, .int 0, .int (-1), .int 0, .null])), (qu, .inr (1, [.int 0, .ref eu, .int 0]))] sz) t) (va_A [(m0, .inr (10, [.int th, .ref qu, .ref qs, .ref qc, .ref qp, .int 0, .int (-1), .int 0, .null])), (qu, .inr (1, [.int 0, .ref eu, .int 0]))] sz)) 3 24 (va_A [(m0, .inr (10, [.int th, .ref qu, .ref qs, .ref qc, .ref qp, .int 0, .int (-1), .int 0, .null])), (qu, .inr (1, [.int 0, .ref eu, .int 0]))] sz) := by
  refine Met.ofW (cc := cX8_shortest) (maxL := 1) (ret := (some .int)) (by decide +kernel) rfl ?_
  intro p e s m args below meth c s₁ B hml hv
  obtain ⟨rfl, hsz, hP, hK, hD0, hE, hX0⟩ := hv
  have hx := B.exec
  have hb := B.bytes
  have hr := B.returns
  have hts := z_E.ts (args := [.ref m0].toArray) hE
  have hown : s.vm.findClass RX8 = some m.cls := findClass_of_methodNamed B.named
  have hlocks := B.notSynchronized
  subst hsz
  have hD := hD0.self (sz := s.heap.size)
  generalize hAe : va_A [(m0, .inr (10, [.int th, .ref qu, .ref qs, .ref qc, .ref qp, .int 0, .int (-1), .int 0, .null])), (qu, .inr (1, [.int 0, .ref eu, .int 0]))] s.heap.size = A at hD hX0 ⊢
  have hX : z_X D A s s.heap := hX0
  have hA : ∀ q : Nat, s.heap.size ≤ q → A q := fun q h => by rw [← hAe]; exact Or.inr h
  have hS : va_S A s.heap s.heap [] := va_S.rf
  have hP : va_P D vwCl [(m0, .inr (10, [.int th, .ref qu, .ref qs, .ref qc, .ref qp, .int 0, .int (-1), .int 0, .null])), (qu, .inr (1, [.int 0, .ref eu, .int 0]))] s.heap := hP
  have hl := lv_entry ([.ref m0]) (n := 1) (Nat.le_of_ble_eq_true rfl)
  rw [lg_entry_eq]
  generalize (lg_sl ([.ref m0]) ++ List.replicate (1 - (lg_sl ([.ref m0])).length) Slot.unset).toArray = ls at hl ⊢
  have hl : lv_has ls 1 [(0, .ref m0)] := hl
  skip
  refine lv_aload_n hx hb dX8_shortest_0 rfl (lv_at hl 0 rfl) ?_
  refine lv_aload_n hx hb dX8_shortest_1 rfl (lv_at hl 0 rfl) ?_
  obtain ⟨hb_1, hc_1⟩ := z_call (wc := [(m0, .inr (10, [.int th, .ref qu, .ref qs, .ref qc, .ref qp, .int 0, .int (-1), .int 0, .null])), (qu, .inr (1, [.int 0, .ref eu, .int 0]))]) (tc := []) ([.ref m0]) hP hK hD hS hA hE hX [0, 1] rfl rfl [] rfl
  have hF_1 := va_free (wc := [(m0, .inr (10, [.int th, .ref qu, .ref qs, .ref qc, .ref qp, .int 0, .int (-1), .int 0, .null])), (qu, .inr (1, [.int 0, .ref eu, .int 0]))]) hD hS hA [0, 1] rfl
  refine va_calli (va_runV (As := []) (rest := [.ref m0]) ⟨hx, hb, hml, hown, hts⟩ (g_X8_noProgramme l D m0 qu qs qc qp th eu _ ) (z_cV 0 hE zw_1684 zw_1686 zw_84 zw_96 zw_1687 rfl rfl rfl (by decide +kernel) ⟨(Nat.le_of_ble_eq_true rfl), (Nat.le_of_ble_eq_true rfl)⟩) ⟨hb_1, va_recv hK hP (ci := 10) (q0 := 0) rfl rfl, hc_1⟩ rfl rfl hl.1 rfl (lv_room (Nat.le_of_ble_eq_true rfl)) dX8_shortest_2 ⟨(Nat.le_of_ble_eq_true rfl), (Nat.le_of_ble_eq_true rfl)⟩) hS (fun q _ h => hF_1 q h) hF_1 (fun r_1 u_1 t_1 H1 locs ht_1 hvm_1 hw_1 hB_1 hz_1 hk_1 hS1 => ?_)
  obtain ⟨hP, hK, hD⟩ := z_back (wc := [(m0, .inr (10, [.int th, .ref qu, .ref qs, .ref qc, .ref qp, .int 0, .int (-1), .int 0, .null])), (qu, .inr (1, [.int 0, .ref eu, .int 0]))]) (wr := []) (w1 := [(m0, .inr (10, [.int th, .ref qu, .ref qs, .ref qc, .ref qp, .int 0, .int (-1), .int 0, .null])), (qu, .inr (1, [.int 0, .ref eu, .int 0]))]) (tr := []) hP hK hD [0, 1] [] rfl rfl rfl (by decide) ht_1 hvm_1 hk_1 hF_1 [] rfl hB_1
  have hS := hS1
  have hP : va_P D vwCl [(m0, .inr (10, [.int th, .ref qu, .ref qs, .ref qc, .ref qp, .int 0, .int (-1), .int 0, .null])), (qu, .inr (1, [.int 0, .ref eu, .int 0]))] H1 := hP
  have hD : va_D A [(m0, .inr (10, [.int th, .ref qu, .ref qs, .ref qc, .ref qp, .int 0, .int (-1), .int 0, .null])), (qu, .inr (1, [.int 0, .ref eu, .int 0]))] := hD
  have hK : va_K D vwCl [] s := hK
  clear hS1
  obtain rfl : r_1 = 0 := hw_1
  refine lv_if_eq (tgt := 12) hx hb dX8_shortest_5 (by decide) (fun c_2 => ?_) (fun c_2 => absurd (by decide) c_2)
  refine lv_iconst (v := 0) hx hb dX8_shortest_12 (by decide) ?_
  refine va_put (D := D) (ci := 10) (v := .int 0) (ty := .int) (C := RX8) (T := TX8) (N := 9) hx hb hts zin_X8 tyX8 tyX8_ok nmX8 hown hK hP hD hS 0 rfl rfl 0 (by decide) (hts _ zw_1080) (fun _ h9 => h9) rfl (by decide +kernel) rfl rfl (Nat.le_of_ble_eq_true rfl) dX8_shortest_13 (fun H locs hP hD hS => ?_)
  have hP : va_P D vwCl [(m0, .inr (10, [.int 0, .ref qu, .ref qs, .ref qc, .ref qp, .int 0, .int (-1), .int 0, .null])), (qu, .inr (1, [.int 0, .ref eu, .int 0]))] H := hP
  have hD : va_D A [(m0, .inr (10, [.int 0, .ref qu, .ref qs, .ref qc, .ref qp, .int 0, .int (-1), .int 0, .null])), (qu, .inr (1, [.int 0, .ref eu, .int 0]))] := hD
  refine lv_aload_n hx hb dX8_shortest_16 rfl (lv_at hl 0 rfl) ?_
  refine va_get (D := D) (ci := 10) (v := .int 0) (C := RX8) (T := TX8) (N := 9) hx hb hts zin_X8 hown hK hP 0 rfl rfl 0 (by decide) (hts _ zw_1080) (fun _ h9 => h9) rfl dX8_shortest_17 ?_
  refine lv_if_le (tgt := 25) hx hb dX8_shortest_20 (by decide) (fun c_3 => ?_) (fun c_3 => absurd (by decide) c_3)
  refine lv_aload_n hx hb dX8_shortest_25 rfl (lv_at hl 0 rfl) ?_
  obtain ⟨hb_5, hc_5⟩ := z_call (wc := [(m0, .inr (10, [.int 0, .ref qu, .ref qs, .ref qc, .ref qp, .int 0, .int (-1), .int 0, .null])), (qu, .inr (1, [.int 0, .ref eu, .int 0]))]) (tc := []) ([.ref m0]) hP hK hD hS hA hE hX [0, 1] rfl rfl [] rfl
  have hF_5 := va_free (wc := [(m0, .inr (10, [.int 0, .ref qu, .ref qs, .ref qc, .ref qp, .int 0, .int (-1), .int 0, .null])), (qu, .inr (1, [.int 0, .ref eu, .int 0]))]) hD hS hA [0, 1] rfl
  refine va_callv (va_runV (As := []) (rest := []) ⟨hx, hb, hml, hown, hts⟩ (g_X8_programmes l D m0 qu qs qc qp 0 eu _ ) (z_cV 0 hE zw_1688 zw_1690 zw_85 zw_96 zw_1691 rfl rfl rfl (by decide +kernel) ⟨(Nat.le_of_ble_eq_true rfl), (Nat.le_of_ble_eq_true rfl)⟩) ⟨hb_5, va_recv hK hP (ci := 10) (q0 := 0) rfl rfl, hc_5⟩ rfl rfl hl.1 rfl (lv_room (Nat.le_of_ble_eq_true rfl)) dX8_shortest_26 ⟨(Nat.le_of_ble_eq_true rfl), (Nat.le_of_ble_eq_true rfl)⟩) hS (fun q _ h => hF_5 q h) hF_5 (fun u_5 t_5 H1 locs ht_5 hvm_5 hw_5 hB_5 hz_5 hk_5 hS1 => ?_)
  obtain ⟨qb_4, hB_5⟩ := hB_5
  obtain ⟨hP, hK, hD⟩ := z_back (wc := [(m0, .inr (10, [.int 0, .ref qu, .ref qs, .ref qc, .ref qp, .int 0, .int (-1), .int 0, .null])), (qu, .inr (1, [.int 0, .ref eu, .int 0]))]) (wr := []) (w1 := [(m0, .inr (10, [.int 0, .ref qu, .ref qs, .ref qc, .ref qp, .int 0, .int (-1), .int 0, .ref qb_4])), (qu, .inr (1, [.int 0, .ref eu, .int 0]))]) (tr := []) hP hK hD [0, 1] [] rfl rfl rfl (by decide) ht_5 hvm_5 hk_5 hF_5 [] rfl hB_5
  have hS := hS1
  have hP : va_P D vwCl [(m0, .inr (10, [.int 0, .ref qu, .ref qs, .ref qc, .ref qp, .int 0, .int (-1), .int 0, .ref qb_4])), (qu, .inr (1, [.int 0, .ref eu, .int 0]))] H1 := hP
  have hD : va_D A [(m0, .inr (10, [.int 0, .ref qu, .ref qs, .ref qc, .ref qp, .int 0, .int (-1), .int 0, .ref qb_4])), (qu, .inr (1, [.int 0, .ref eu, .int 0]))] := hD
  have hK : va_K D vwCl [] s := hK
  clear hS1
  refine lv_aload_n hx hb dX8_shortest_29 rfl (lv_at hl 0 rfl) ?_
  refine va_get (D := D) (ci := 10) (v := .int 0) (C := RX8) (T := TX8) (N := 9) hx hb hts zin_X8 hown hK hP 0 rfl rfl 7 (by decide) (hts _ zw_1087) (fun _ h9 => h9) rfl dX8_shortest_30 ?_
  exact W.iret (v := 0) hx hb hr (fun t ht hW => ⟨⟨0, (), rfl, rfl, ⟨qb_4, z_end hP hK hD [0, 1] rfl rfl [] rfl ht hW.alike⟩⟩, hS.F ht⟩) hS.2.2 dX8_shortest_33
theorem z_vp {x hi : Int32} {n : Nat} {hi64 : Int64} (h1 : hi.toInt64 = hi64) (h2 : hi.toInt = (n : Int) - 1) (h : (0 : Int64) ≤ x.toInt64 ∧ x.toInt64 ≤ hi64) : vp_in x n := by
  rw [vp_in_iff]
  rw [← h1, Int64.le_iff_toInt_le, Int64.le_iff_toInt_le, Int32.toInt_toInt64, Int32.toInt_toInt64, h2] at h
  have e0 : (0 : Int64).toInt = 0 := by decide
  rw [e0] at h
  omega
theorem dX8_setPeople_0 : decode cX8_setPeople 0 = .ok (.aload_n 0, 1) := by decide +kernel
theorem dX8_setPeople_1 : decode cX8_setPeople 1 = .ok (.iload_n 1, 1) := by decide +kernel
theorem dX8_setPeople_2 : decode cX8_setPeople 2 = .ok (.i2l, 1) := by decide +kernel
theorem dX8_setPeople_3 : decode cX8_setPeople 3 = .ok (.lconst 0, 1) := by decide +kernel
theorem dX8_setPeople_4 : decode cX8_setPeople 4 = .ok (.ldc2_w 214, 3) := by decide +kernel
theorem zw_1534 : Cond.constantLong RX8 214 6 ∈ z_Ts := z_m 1534 (by decide +kernel) (by decide +kernel)
theorem dX8_setPeople_7 : decode cX8_setPeople 7 = .ok (.invokestatic 37, 3) := by decide +kernel
theorem dX8_setPeople_10 : decode cX8_setPeople 10 = .ok (.ifCond .eq 19, 3) := by decide +kernel
theorem dX8_setPeople_13 : decode cX8_setPeople 13 = .ok (.iload_n 2, 1) := by decide +kernel
theorem dX8_setPeople_14 : decode cX8_setPeople 14 = .ok (.i2l, 1) := by decide +kernel
theorem dX8_setPeople_15 : decode cX8_setPeople 15 = .ok (.lconst 0, 1) := by decide +kernel
theorem dX8_setPeople_16 : decode cX8_setPeople 16 = .ok (.ldc2_w 108, 3) := by decide +kernel
theorem zw_1325 : Cond.constantLong RX8 108 999 ∈ z_Ts := z_m 1325 (by decide +kernel) (by decide +kernel)
theorem dX8_setPeople_19 : decode cX8_setPeople 19 = .ok (.invokestatic 37, 3) := by decide +kernel
theorem dX8_setPeople_22 : decode cX8_setPeople 22 = .ok (.ifCond .eq 7, 3) := by decide +kernel
theorem dX8_setPeople_25 : decode cX8_setPeople 25 = .ok (.iconst 0, 1) := by decide +kernel
theorem dX8_setPeople_26 : decode cX8_setPeople 26 = .ok (.goto 4, 3) := by decide +kernel
theorem dX8_setPeople_30 : decode cX8_setPeople 30 = .ok (.putfield 30, 3) := by decide +kernel
theorem dX8_setPeople_33 : decode cX8_setPeople 33 = .ok (.aload_n 0, 1) := by decide +kernel
theorem dX8_setPeople_34 : decode cX8_setPeople 34 = .ok (.getfield 30, 3) := by decide +kernel
theorem dX8_setPeople_37 : decode cX8_setPeople 37 = .ok (.ifCond .le 5, 3) := by decide +kernel
theorem dX8_setPeople_42 : decode cX8_setPeople 42 = .ok (.aload_n 0, 1) := by decide +kernel
theorem dX8_setPeople_43 : decode cX8_setPeople 43 = .ok (.getfield 22, 3) := by decide +kernel
theorem dX8_setPeople_46 : decode cX8_setPeople 46 = .ok (.iload_n 1, 1) := by decide +kernel
theorem dX8_setPeople_47 : decode cX8_setPeople 47 = .ok (.iaload, 1) := by decide +kernel
theorem dX8_setPeople_48 : decode cX8_setPeople 48 = .ok (.istore_n 3, 1) := by decide +kernel
theorem dX8_setPeople_49 : decode cX8_setPeople 49 = .ok (.aload_n 0, 1) := by decide +kernel
theorem dX8_setPeople_50 : decode cX8_setPeople 50 = .ok (.getfield 22, 3) := by decide +kernel
theorem dX8_setPeople_53 : decode cX8_setPeople 53 = .ok (.iload_n 1, 1) := by decide +kernel
theorem dX8_setPeople_54 : decode cX8_setPeople 54 = .ok (.iload_n 2, 1) := by decide +kernel
theorem dX8_setPeople_55 : decode cX8_setPeople 55 = .ok (.iastore, 1) := by decide +kernel
theorem dX8_setPeople_56 : decode cX8_setPeople 56 = .ok (.iload_n 3, 1) := by decide +kernel
theorem dX8_setPeople_57 : decode cX8_setPeople 57 = .ok (.ireturn, 1) := by decide +kernel
theorem dX8_setPeople_29 : decode cX8_setPeople 29 = .ok (.iconst 1, 1) := by decide +kernel
theorem dX8_setPeople_40 : decode cX8_setPeople 40 = .ok (.iconst 0, 1) := by decide +kernel
theorem dX8_setPeople_41 : decode cX8_setPeople 41 = .ok (.ireturn, 1) := by decide +kernel
set_option maxHeartbeats 4000000 in
set_option maxRecDepth 100000 in
theorem g_X8_setPeople (l : Launch) (D : va_G) (m0 : Nat) (qu : Nat) (qs : Nat) (qc : Nat) (qp : Nat) (th : Int32) (fp : Nat → Int32) (cP : ClassId) (a0 : Int32) (a1 : Int32) (sz : Nat) (hfp : ∀ j : Nat, j < 7 → fp j = 100) : Met l yX8_setPeople [Cond.code yX8_setPeople cX8_setPeople 4 (some .int)] ({ frames := 1, cells := 0, slots := 0, locals := 60 }) (z_Pc D [.ref m0, .int a0, .int a1] [(m0, .inr (10, [.int th, .ref qu, .ref qs, .ref qc, .ref qp, .int 0, .int (-1), .int 0, .null])), (qp, .inl (cP, 7, .inl fp))] [(cP, .int)] sz) (va_Qi (fun (r : Int32) (_ : Unit) => (0 ≤ a0.toInt64 ∧ a0.toInt64 ≤ 6) ∧ (0 ≤ a1.toInt64 ∧ a1.toInt64 ≤ 999) → r = 100) (fun _ t => ∃ t1 : Int32, t1 = (if (0 ≤ a0.toInt64 ∧ a0.toInt64 ≤ 6) ∧ (0 ≤ a1.toInt64 ∧ a1.toInt64 ≤ 999) then 0 else 1) ∧ z_W D [(m0, .inr (10, [.int t1, .ref qu, .ref qs, .ref qc, .ref qp, .int 0, .int (-1), .int 0, .null]))] [] (va_A [(m0, .inr (10, [.int th, .ref qu, .ref qs, .ref qc, .ref qp, .int 0, .int (-1), .int 0, .null])), (qp, .inl (cP, 7, .inl fp))] sz) t) (va_A [(m0, .inr (10, [.int th, .ref qu, .ref qs, .ref qc, .ref qp, .int 0, .int (-1), .int 0, .null])), (qp, .inl (cP, 7, .inl fp))] sz)) 0 0 (va_A [(m0, .inr (10, [.int th, .ref qu, .ref qs, .ref qc, .ref qp, .int 0, .int (-1), .int 0, .null])), (qp, .inl (cP, 7, .inl fp))] sz) := by
  refine Met.ofW (cc := cX8_setPeople) (maxL := 4) (ret := (some .int)) (by decide +kernel) rfl ?_
  intro p e s m args below meth c s₁ B hml hv
  obtain ⟨rfl, hsz, hP, hK, hD0, hE, hX0⟩ := hv
  have hx := B.exec
  have hb := B.bytes
  have hr := B.returns
  have hts := z_E.ts (args := [.ref m0, .int a0, .int a1].toArray) hE
  have hown : s.vm.findClass RX8 = some m.cls := findClass_of_methodNamed B.named
  have hlocks := B.notSynchronized
  subst hsz
  have hD := hD0.self (sz := s.heap.size)
  generalize hAe : va_A [(m0, .inr (10, [.int th, .ref qu, .ref qs, .ref qc, .ref qp, .int 0, .int (-1), .int 0, .null])), (qp, .inl (cP, 7, .inl fp))] s.heap.size = A at hD hX0 ⊢
  have hX : z_X D A s s.heap := hX0
  have hA : ∀ q : Nat, s.heap.size ≤ q → A q := fun q h => by rw [← hAe]; exact Or.inr h
  have hS : va_S A s.heap s.heap [] := va_S.rf
  have hP : va_P D vwCl [(m0, .inr (10, [.int th, .ref qu, .ref qs, .ref qc, .ref qp, .int 0, .int (-1), .int 0, .null])), (qp, .inl (cP, 7, .inl fp))] s.heap := hP
  have hl := lv_entry ([.ref m0, .int a0, .int a1]) (n := 4) (Nat.le_of_ble_eq_true rfl)
  rw [lg_entry_eq]
  generalize (lg_sl ([.ref m0, .int a0, .int a1]) ++ List.replicate (4 - (lg_sl ([.ref m0, .int a0, .int a1])).length) Slot.unset).toArray = ls at hl ⊢
  have hl : lv_has ls 4 [(0, .ref m0), (1, .int a0), (2, .int a1)] := hl
  skip
  refine lv_aload_n hx hb dX8_setPeople_0 rfl (lv_at hl 0 rfl) ?_
  refine lv_iload_n hx hb dX8_setPeople_1 rfl (lv_at hl 1 rfl) ?_
  refine lv_i2l hx hb dX8_setPeople_2 rfl ?_
  refine lv_lconst (v := 0) hx hb dX8_setPeople_3 (by decide) ?_
  refine lv_ldc2 hx hb hown (hts _ zw_1534) dX8_setPeople_4 ?_
  obtain ⟨hb_1, hc_1⟩ := z_call (wc := []) (tc := []) ([.long (a0).toInt64, .long 0, .long 6]) hP hK hD hS hA hE hX [] rfl rfl [] rfl
  have hF_1 := va_free (wc := []) hD hS hA [] rfl
  refine va_calli (va_runS (As := [.long (a0).toInt64, .long 0, .long 6]) (rest := [.ref m0]) ⟨hx, hb, hml, hown, hts⟩ (c_X8_in l D ((a0).toInt64) 0 6 _ ) (⟨z_cB 3 hE zw_1118 zw_96 zw_1120 rfl rfl rfl (by decide +kernel) ⟨(Nat.le_of_ble_eq_true rfl), (Nat.le_of_ble_eq_true rfl)⟩, hE.ts _ zw_1119⟩) ⟨hb_1, hc_1⟩ rfl rfl hl.1 rfl (lv_room (Nat.le_of_ble_eq_true rfl)) dX8_setPeople_7 ⟨(Nat.le_of_ble_eq_true rfl), (Nat.le_of_ble_eq_true rfl)⟩) hS (fun q _ h => hF_1 q h) hF_1 (fun r_1 u_1 t_1 H1 locs ht_1 hvm_1 hw_1 hB_1 hz_1 hk_1 hS1 => ?_)
  obtain ⟨hP, hK, hD⟩ := z_back (wc := []) (wr := [(m0, .inr (10, [.int th, .ref qu, .ref qs, .ref qc, .ref qp, .int 0, .int (-1), .int 0, .null])), (qp, .inl (cP, 7, .inl fp))]) (w1 := []) (tr := [(cP, .int)]) hP hK hD [] [0, 1] rfl rfl rfl (by decide) ht_1 hvm_1 hk_1 hF_1 [0] rfl hB_1
  have hS := hS1
  have hP : va_P D vwCl [(m0, .inr (10, [.int th, .ref qu, .ref qs, .ref qc, .ref qp, .int 0, .int (-1), .int 0, .null])), (qp, .inl (cP, 7, .inl fp))] H1 := hP
  have hD : va_D A [(m0, .inr (10, [.int th, .ref qu, .ref qs, .ref qc, .ref qp, .int 0, .int (-1), .int 0, .null])), (qp, .inl (cP, 7, .inl fp))] := hD
  have hK : va_K D vwCl [(cP, .int)] s := hK
  clear hS1
  rcases hw_1 with ⟨rfl, g1⟩ | ⟨rfl, g1⟩
  · refine lv_if_eq (tgt := 29) hx hb dX8_setPeople_10 (by decide) (fun c_2 => absurd c_2 (by decide)) (fun c_2 => ?_)
    refine lv_iload_n hx hb dX8_setPeople_13 rfl (lv_at hl 2 rfl) ?_
    refine lv_i2l hx hb dX8_setPeople_14 rfl ?_
    refine lv_lconst (v := 0) hx hb dX8_setPeople_15 (by decide) ?_
    refine lv_ldc2 hx hb hown (hts _ zw_1325) dX8_setPeople_16 ?_
    obtain ⟨hb_3, hc_3⟩ := z_call (wc := []) (tc := []) ([.long (a1).toInt64, .long 0, .long 999]) hP hK hD hS hA hE hX [] rfl rfl [] rfl
    have hF_3 := va_free (wc := []) hD hS hA [] rfl
    refine va_calli (va_runS (As := [.long (a1).toInt64, .long 0, .long 999]) (rest := [.ref m0]) ⟨hx, hb, hml, hown, hts⟩ (c_X8_in l D ((a1).toInt64) 0 999 _ ) (⟨z_cB 3 hE zw_1118 zw_96 zw_1120 rfl rfl rfl (by decide +kernel) ⟨(Nat.le_of_ble_eq_true rfl), (Nat.le_of_ble_eq_true rfl)⟩, hE.ts _ zw_1119⟩) ⟨hb_3, hc_3⟩ rfl rfl hl.1 rfl (lv_room (Nat.le_of_ble_eq_true rfl)) dX8_setPeople_19 ⟨(Nat.le_of_ble_eq_true rfl), (Nat.le_of_ble_eq_true rfl)⟩) hS (fun q _ h => hF_3 q h) hF_3 (fun r_3 u_3 t_3 H1 locs ht_3 hvm_3 hw_3 hB_3 hz_3 hk_3 hS1 => ?_)
    obtain ⟨hP, hK, hD⟩ := z_back (wc := []) (wr := [(m0, .inr (10, [.int th, .ref qu, .ref qs, .ref qc, .ref qp, .int 0, .int (-1), .int 0, .null])), (qp, .inl (cP, 7, .inl fp))]) (w1 := []) (tr := [(cP, .int)]) hP hK hD [] [0, 1] rfl rfl rfl (by decide) ht_3 hvm_3 hk_3 hF_3 [0] rfl hB_3
    have hS := hS1
    have hP : va_P D vwCl [(m0, .inr (10, [.int th, .ref qu, .ref qs, .ref qc, .ref qp, .int 0, .int (-1), .int 0, .null])), (qp, .inl (cP, 7, .inl fp))] H1 := hP
    have hD : va_D A [(m0, .inr (10, [.int th, .ref qu, .ref qs, .ref qc, .ref qp, .int 0, .int (-1), .int 0, .null])), (qp, .inl (cP, 7, .inl fp))] := hD
    have hK : va_K D vwCl [(cP, .int)] s := hK
    clear hS1
    rcases hw_3 with ⟨rfl, g3⟩ | ⟨rfl, g3⟩
    · refine lv_if_eq (tgt := 29) hx hb dX8_setPeople_22 (by decide) (fun c_4 => absurd c_4 (by decide)) (fun c_4 => ?_)
      refine lv_iconst (v := 0) hx hb dX8_setPeople_25 (by decide) ?_
      refine lv_goto (tgt := 30) hx hb dX8_setPeople_26 (by decide) ?_
      refine va_put (D := D) (ci := 10) (v := .int 0) (ty := .int) (C := RX8) (T := TX8) (N := 9) hx hb hts zin_X8 tyX8 tyX8_ok nmX8 hown hK hP hD hS 0 rfl rfl 0 (by decide) (hts _ zw_1080) (fun _ h9 => h9) rfl (by decide +kernel) rfl rfl (Nat.le_of_ble_eq_true rfl) dX8_setPeople_30 (fun H locs hP hD hS => ?_)
      have hP : va_P D vwCl [(m0, .inr (10, [.int 0, .ref qu, .ref qs, .ref qc, .ref qp, .int 0, .int (-1), .int 0, .null])), (qp, .inl (cP, 7, .inl fp))] H := hP
      have hD : va_D A [(m0, .inr (10, [.int 0, .ref qu, .ref qs, .ref qc, .ref qp, .int 0, .int (-1), .int 0, .null])), (qp, .inl (cP, 7, .inl fp))] := hD
      refine lv_aload_n hx hb dX8_setPeople_33 rfl (lv_at hl 0 rfl) ?_
      refine va_get (D := D) (ci := 10) (v := .int 0) (C := RX8) (T := TX8) (N := 9) hx hb hts zin_X8 hown hK hP 0 rfl rfl 0 (by decide) (hts _ zw_1080) (fun _ h9 => h9) rfl dX8_setPeople_34 ?_
      refine lv_if_le (tgt := 42) hx hb dX8_setPeople_37 (by decide) (fun c_5 => ?_) (fun c_5 => absurd (by decide) c_5)
      refine lv_aload_n hx hb dX8_setPeople_42 rfl (lv_at hl 0 rfl) ?_
      refine va_get (D := D) (ci := 10) (v := .ref qp) (C := RX8) (T := TX8) (N := 9) hx hb hts zin_X8 hown hK hP 0 rfl rfl 4 (by decide) (hts _ zw_1084) (fun _ h9 => h9) rfl dX8_setPeople_43 ?_
      have hin1 : vp_in a0 7 := z_vp (hi := 6) (by decide) (by decide) g1
      have hin2 : a0.toNatClampNeg < 7 := Nat.not_le.mp fun q => hin1 (Or.inr q)
      refine lv_iload_n hx hb dX8_setPeople_46 rfl (lv_at hl 1 rfl) ?_
      refine va_iald hx hb hK hP 1 0 rfl rfl (i := a0) hin1 dX8_setPeople_47 ?_
      refine lv_istore_n (lv' := [(3, .int ((fp) (a0 : Int32).toNatClampNeg)), (0, .ref m0), (1, .int a0), (2, .int a1)]) hx hb dX8_setPeople_48 rfl hl (by decide) rfl (fun ls hl => ?_)
      refine lv_aload_n hx hb dX8_setPeople_49 rfl (lv_at hl 1 rfl) ?_
      refine va_get (D := D) (ci := 10) (v := .ref qp) (C := RX8) (T := TX8) (N := 9) hx hb hts zin_X8 hown hK hP 0 rfl rfl 4 (by decide) (hts _ zw_1084) (fun _ h9 => h9) rfl dX8_setPeople_50 ?_
      refine lv_iload_n hx hb dX8_setPeople_53 rfl (lv_at hl 2 rfl) ?_
      refine lv_iload_n hx hb dX8_setPeople_54 rfl (lv_at hl 3 rfl) ?_
      refine va_iast hx hb hK hP hD hS 1 0 rfl rfl (i := a0) hin1 dX8_setPeople_55 (fun H locs hP hD hS => ?_)
      have hP : va_P D vwCl [(m0, .inr (10, [.int 0, .ref qu, .ref qs, .ref qc, .ref qp, .int 0, .int (-1), .int 0, .null])), (qp, .inl (cP, 7, .inl (upd fp (a0 : Int32).toNatClampNeg a1)))] H := hP
      have hD : va_D A [(m0, .inr (10, [.int 0, .ref qu, .ref qs, .ref qc, .ref qp, .int 0, .int (-1), .int 0, .null])), (qp, .inl (cP, 7, .inl (upd fp (a0 : Int32).toNatClampNeg a1)))] := hD
      refine lv_iload_n hx hb dX8_setPeople_56 rfl (lv_at hl 0 rfl) ?_
      exact W.iret (v := ((fp) (a0 : Int32).toNatClampNeg)) hx hb hr (fun t ht hW => ⟨⟨((fp) (a0 : Int32).toNatClampNeg), (), rfl, (fun _ => hfp _ hin2), ⟨0, (if_pos ⟨g1, g3⟩).symm, z_end hP hK hD [0] rfl rfl [] rfl ht hW.alike⟩⟩, hS.F ht⟩) hS.2.2 dX8_setPeople_57
    · refine lv_if_eq (tgt := 29) hx hb dX8_setPeople_22 (by decide) (fun c_4 => ?_) (fun c_4 => absurd (by decide) c_4)
      refine lv_iconst (v := 1) hx hb dX8_setPeople_29 (by decide) ?_
      refine va_put (D := D) (ci := 10) (v := .int 1) (ty := .int) (C := RX8) (T := TX8) (N := 9) hx hb hts zin_X8 tyX8 tyX8_ok nmX8 hown hK hP hD hS 0 rfl rfl 0 (by decide) (hts _ zw_1080) (fun _ h9 => h9) rfl (by decide +kernel) rfl rfl (Nat.le_of_ble_eq_true rfl) dX8_setPeople_30 (fun H locs hP hD hS => ?_)
      have hP : va_P D vwCl [(m0, .inr (10, [.int 1, .ref qu, .ref qs, .ref qc, .ref qp, .int 0, .int (-1), .int 0, .null])), (qp, .inl (cP, 7, .inl fp))] H := hP
      have hD : va_D A [(m0, .inr (10, [.int 1, .ref qu, .ref qs, .ref qc, .ref qp, .int 0, .int (-1), .int 0, .null])), (qp, .inl (cP, 7, .inl fp))] := hD
      refine lv_aload_n hx hb dX8_setPeople_33 rfl (lv_at hl 0 rfl) ?_
      refine va_get (D := D) (ci := 10) (v := .int 1) (C := RX8) (T := TX8) (N := 9) hx hb hts zin_X8 hown hK hP 0 rfl rfl 0 (by decide) (hts _ zw_1080) (fun _ h9 => h9) rfl dX8_setPeople_34 ?_
      refine lv_if_le (tgt := 42) hx hb dX8_setPeople_37 (by decide) (fun c_5 => absurd c_5 (by decide)) (fun c_5 => ?_)
      refine lv_iconst (v := 0) hx hb dX8_setPeople_40 (by decide) ?_
      exact W.iret (v := 0) hx hb hr (fun t ht hW => ⟨⟨0, (), rfl, (fun h => absurd h.2 g3), ⟨1, (if_neg (fun h => g3 h.2)).symm, z_end hP hK hD [0] rfl rfl [] rfl ht hW.alike⟩⟩, hS.F ht⟩) hS.2.2 dX8_setPeople_41
  · refine lv_if_eq (tgt := 29) hx hb dX8_setPeople_10 (by decide) (fun c_2 => ?_) (fun c_2 => absurd (by decide) c_2)
    refine lv_iconst (v := 1) hx hb dX8_setPeople_29 (by decide) ?_
    refine va_put (D := D) (ci := 10) (v := .int 1) (ty := .int) (C := RX8) (T := TX8) (N := 9) hx hb hts zin_X8 tyX8 tyX8_ok nmX8 hown hK hP hD hS 0 rfl rfl 0 (by decide) (hts _ zw_1080) (fun _ h9 => h9) rfl (by decide +kernel) rfl rfl (Nat.le_of_ble_eq_true rfl) dX8_setPeople_30 (fun H locs hP hD hS => ?_)
    have hP : va_P D vwCl [(m0, .inr (10, [.int 1, .ref qu, .ref qs, .ref qc, .ref qp, .int 0, .int (-1), .int 0, .null])), (qp, .inl (cP, 7, .inl fp))] H := hP
    have hD : va_D A [(m0, .inr (10, [.int 1, .ref qu, .ref qs, .ref qc, .ref qp, .int 0, .int (-1), .int 0, .null])), (qp, .inl (cP, 7, .inl fp))] := hD
    refine lv_aload_n hx hb dX8_setPeople_33 rfl (lv_at hl 0 rfl) ?_
    refine va_get (D := D) (ci := 10) (v := .int 1) (C := RX8) (T := TX8) (N := 9) hx hb hts zin_X8 hown hK hP 0 rfl rfl 0 (by decide) (hts _ zw_1080) (fun _ h9 => h9) rfl dX8_setPeople_34 ?_
    refine lv_if_le (tgt := 42) hx hb dX8_setPeople_37 (by decide) (fun c_3 => absurd c_3 (by decide)) (fun c_3 => ?_)
    refine lv_iconst (v := 0) hx hb dX8_setPeople_40 (by decide) ?_
    exact W.iret (v := 0) hx hb hr (fun t ht hW => ⟨⟨0, (), rfl, (fun h => absurd h.1 g1), ⟨1, (if_neg (fun h => g1 h.1)).symm, z_end hP hK hD [0] rfl rfl [] rfl ht hW.alike⟩⟩, hS.F ht⟩) hS.2.2 dX8_setPeople_41
