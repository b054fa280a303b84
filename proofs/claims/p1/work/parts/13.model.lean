theorem z_in0 {r : Int32} {v : Int64} (h : (r = 1 ∧ 0 ≤ v ∧ v ≤ -1) ∨ (r = 0 ∧ ¬ (0 ≤ v ∧ v ≤ -1))) : r = 0 := by
  rcases h with ⟨-, h1, h2⟩ | ⟨h, -⟩
  · rw [Int64.le_iff_toInt_le] at h1 h2
    have e1 : (0 : Int64).toInt = 0 := by decide
    have e2 : (-1 : Int64).toInt = -1 := by decide
    rw [e1] at h1
    rw [e2] at h2
    omega
  · exact h
theorem dJx4a65c_size_8abf5_0 : decode cJx4a65c_size_8abf5 0 = .ok (.aload_n 0, 1) := by decide +kernel
theorem dJx4a65c_size_8abf5_1 : decode cJx4a65c_size_8abf5 1 = .ok (.getfield 48, 3) := by decide +kernel
theorem zw_1068 : Cond.fieldLink RJx4a65c 48 "java/util/ArrayList" "size" "I" ∈ z_Ts := z_m 1068 (by decide +kernel) (by decide +kernel)
set_option maxRecDepth 20000 in
theorem zin_Jx4a65c : ∀ w ∈ u_ws RJx4a65c TJx4a65c 3, w ∈ z_Ts := z_ins (by decide +kernel) (by decide +kernel)
theorem dJx4a65c_size_8abf5_4 : decode cJx4a65c_size_8abf5 4 = .ok (.ireturn, 1) := by decide +kernel
set_option maxHeartbeats 4000000 in
set_option maxRecDepth 100000 in
theorem c_J_size (l : Launch) (D : va_G) (q : Nat) (mc : Int32) (ed : Nat) (n : Int32) (sz : Nat)  : Met l yJx4a65c_size_8abf5 [Cond.code yJx4a65c_size_8abf5 cJx4a65c_size_8abf5 1 (some .int)] ({ frames := 0, cells := 0, slots := 0, locals := 0 }) (z_Pc D [.ref q] [(q, .inr (1, [.int mc, .ref ed, .int n]))] [] sz) (va_Qi (fun (r : Int32) (_ : Unit) => r = n) (fun _ t => z_W D [(q, .inr (1, [.int mc, .ref ed, .int n]))] [] (va_A [(q, .inr (1, [.int mc, .ref ed, .int n]))] sz) t) (va_A [(q, .inr (1, [.int mc, .ref ed, .int n]))] sz)) 0 0 (va_A [(q, .inr (1, [.int mc, .ref ed, .int n]))] sz) := by
  refine Met.ofW (cc := cJx4a65c_size_8abf5) (maxL := 1) (ret := (some .int)) (by decide +kernel) rfl ?_
  intro p e s m args below meth c s₁ B hml hv
  obtain ⟨rfl, hsz, hP, hK, hD0, hE, hX0⟩ := hv
  have hx := B.exec
  have hb := B.bytes
  have hr := B.returns
  have hts := z_E.ts (args := [.ref q].toArray) hE
  have hown : s.vm.findClass RJx4a65c = some m.cls := findClass_of_methodNamed B.named
  have hlocks := B.notSynchronized
  subst hsz
  have hD := hD0.self (sz := s.heap.size)
  generalize hAe : va_A [(q, .inr (1, [.int mc, .ref ed, .int n]))] s.heap.size = A at hD hX0 ⊢
  have hX : z_X D A s s.heap := hX0
  have hA : ∀ q : Nat, s.heap.size ≤ q → A q := fun q h => by rw [← hAe]; exact Or.inr h
  have hS : va_S A s.heap s.heap [] := va_S.rf
  have hP : va_P D vwCl [(q, .inr (1, [.int mc, .ref ed, .int n]))] s.heap := hP
  have hl := lv_entry ([.ref q]) (n := 1) (Nat.le_of_ble_eq_true rfl)
  rw [lg_entry_eq]
  generalize (lg_sl ([.ref q]) ++ List.replicate (1 - (lg_sl ([.ref q])).length) Slot.unset).toArray = ls at hl ⊢
  have hl : lv_has ls 1 [(0, .ref q)] := hl
  skip
  refine lv_aload_n hx hb dJx4a65c_size_8abf5_0 rfl (lv_at hl 0 rfl) ?_
  refine va_get (D := D) (ci := 1) (v := .int n) (C := RJx4a65c) (T := TJx4a65c) (N := 3) hx hb hts zin_Jx4a65c hown hK hP 0 rfl rfl 2 (by decide) (hts _ zw_1068) (fun _ h9 => h9) rfl dJx4a65c_size_8abf5_1 ?_
  exact W.iret (v := n) hx hb hr (fun t ht hW => ⟨⟨n, (), rfl, rfl, z_end hP hK hD [0] rfl rfl [] rfl ht hW.alike⟩, hS.F ht⟩) hS.2.2 dJx4a65c_size_8abf5_4
theorem dX8_in_0 : decode cX8_in 0 = .ok (.lload_n 0, 1) := by decide +kernel
theorem dX8_in_1 : decode cX8_in 1 = .ok (.lload_n 2, 1) := by decide +kernel
theorem dX8_in_2 : decode cX8_in 2 = .ok (.lcmp, 1) := by decide +kernel
theorem dX8_in_3 : decode cX8_in 3 = .ok (.ifCond .lt 14, 3) := by decide +kernel
theorem dX8_in_17 : decode cX8_in 17 = .ok (.iconst 0, 1) := by decide +kernel
theorem dX8_in_18 : decode cX8_in 18 = .ok (.ireturn, 1) := by decide +kernel
theorem dX8_in_6 : decode cX8_in 6 = .ok (.lload_n 0, 1) := by decide +kernel
theorem dX8_in_7 : decode cX8_in 7 = .ok (.lload 4, 2) := by decide +kernel
theorem dX8_in_9 : decode cX8_in 9 = .ok (.lcmp, 1) := by decide +kernel
theorem dX8_in_10 : decode cX8_in 10 = .ok (.ifCond .gt 7, 3) := by decide +kernel
theorem dX8_in_13 : decode cX8_in 13 = .ok (.iconst 1, 1) := by decide +kernel
theorem dX8_in_14 : decode cX8_in 14 = .ok (.goto 4, 3) := by decide +kernel
set_option maxHeartbeats 4000000 in
set_option maxRecDepth 100000 in
theorem c_X8_in (l : Launch) (D : va_G) (v : Int64) (lo : Int64) (hi : Int64) (sz : Nat)  : Met l yX8_in [Cond.code yX8_in cX8_in 6 (some .boolean)] ({ frames := 0, cells := 0, slots := 0, locals := 0 }) (z_Pc D [.long v, .long lo, .long hi] [] [] sz) (va_Qi (fun (r : Int32) (_ : Unit) => (r = 1 ∧ lo ≤ v ∧ v ≤ hi) ∨ (r = 0 ∧ ¬ (lo ≤ v ∧ v ≤ hi))) (fun _ t => z_W D [] [] (va_A [] sz) t) (va_A [] sz)) 0 0 (va_A [] sz) := by
  refine Met.ofW (cc := cX8_in) (maxL := 6) (ret := (some .boolean)) (by decide +kernel) rfl ?_
  intro p e s m args below meth c s₁ B hml hv
  obtain ⟨rfl, hsz, hP, hK, hD0, hE, hX0⟩ := hv
  have hx := B.exec
  have hb := B.bytes
  have hr := B.returns
  have hts := z_E.ts (args := [.long v, .long lo, .long hi].toArray) hE
  have hown : s.vm.findClass RX8 = some m.cls := findClass_of_methodNamed B.named
  have hlocks := B.notSynchronized
  subst hsz
  have hD := hD0.self (sz := s.heap.size)
  generalize hAe : va_A [] s.heap.size = A at hD hX0 ⊢
  have hX : z_X D A s s.heap := hX0
  have hA : ∀ q : Nat, s.heap.size ≤ q → A q := fun q h => by rw [← hAe]; exact Or.inr h
  have hS : va_S A s.heap s.heap [] := va_S.rf
  have hP : va_P D vwCl [] s.heap := hP
  have hl := lv_entry ([.long v, .long lo, .long hi]) (n := 6) (Nat.le_of_ble_eq_true rfl)
  rw [lg_entry_eq]
  generalize (lg_sl ([.long v, .long lo, .long hi]) ++ List.replicate (6 - (lg_sl ([.long v, .long lo, .long hi])).length) Slot.unset).toArray = ls at hl ⊢
  have hl : lv_has ls 6 [(0, .long v), (2, .long lo), (4, .long hi)] := hl
  skip
  refine lv_lload_n hx hb dX8_in_0 rfl (lv_at hl 0 rfl) ?_
  refine lv_lload_n hx hb dX8_in_1 rfl (lv_at hl 1 rfl) ?_
  refine W.lcmp hx hb dX8_in_2 ?_
  refine lv_if_lt (tgt := 17) hx hb dX8_in_3 (by decide) (fun c_1 => ?_) (fun c_1 => ?_)
  · refine lv_iconst (v := 0) hx hb dX8_in_17 (by decide) ?_
    exact W.zret (v := 0) hx hb hr (by first | rfl | decide) (fun t ht hW => ⟨⟨0, (), rfl, Or.inr ⟨rfl, fun h => Int64.not_le.mpr ((lg_cmp_lt _ _).mp c_1) h.1⟩, z_end hP hK hD [] rfl rfl [] rfl ht hW.alike⟩, hS.F ht⟩) hS.2.2 dX8_in_18
  · refine lv_lload_n hx hb dX8_in_6 rfl (lv_at hl 0 rfl) ?_
    refine lv_lload hx hb dX8_in_7 (lv_at hl 2 rfl) ?_
    refine W.lcmp hx hb dX8_in_9 ?_
    refine lv_if_gt (tgt := 17) hx hb dX8_in_10 (by decide) (fun c_2 => ?_) (fun c_2 => ?_)
    · refine lv_iconst (v := 0) hx hb dX8_in_17 (by decide) ?_
      exact W.zret (v := 0) hx hb hr (by first | rfl | decide) (fun t ht hW => ⟨⟨0, (), rfl, Or.inr ⟨rfl, fun h => Int64.not_le.mpr ((lg_cmp_gt _ _).mp c_2) h.2⟩, z_end hP hK hD [] rfl rfl [] rfl ht hW.alike⟩, hS.F ht⟩) hS.2.2 dX8_in_18
    · refine lv_iconst (v := 1) hx hb dX8_in_13 (by decide) ?_
      refine lv_goto (tgt := 18) hx hb dX8_in_14 (by decide) ?_
      exact W.zret (v := 1) hx hb hr (by first | rfl | decide) (fun t ht hW => ⟨⟨1, (), rfl, Or.inl ⟨rfl, Int64.not_lt.mp (fun h => c_1 ((lg_cmp_lt _ _).mpr h)), Int64.not_lt.mp (fun h => c_2 ((lg_cmp_gt _ _).mpr h))⟩, z_end hP hK hD [] rfl rfl [] rfl ht hW.alike⟩, hS.F ht⟩) hS.2.2 dX8_in_18
theorem dX8_isUnit_0 : decode cX8_isUnit 0 = .ok (.iload_n 1, 1) := by decide +kernel
theorem dX8_isUnit_1 : decode cX8_isUnit 1 = .ok (.i2l, 1) := by decide +kernel
theorem dX8_isUnit_2 : decode cX8_isUnit 2 = .ok (.lconst 0, 1) := by decide +kernel
theorem dX8_isUnit_3 : decode cX8_isUnit 3 = .ok (.aload_n 0, 1) := by decide +kernel
theorem dX8_isUnit_4 : decode cX8_isUnit 4 = .ok (.getfield 10, 3) := by decide +kernel
theorem zw_1081 : Cond.fieldLink RX8 10 "TwofrontArcadeModel" "units" "Ljava/util/ArrayList;" ∈ z_Ts := z_m 1081 (by decide +kernel) (by decide +kernel)
set_option maxRecDepth 20000 in
theorem zin_X8 : ∀ w ∈ u_ws RX8 TX8 9, w ∈ z_Ts := z_ins (by decide +kernel) (by decide +kernel)
theorem dX8_isUnit_7 : decode cX8_isUnit 7 = .ok (.invokevirtual 33, 3) := by decide +kernel
theorem zw_1125 : Cond.methodLink RX8 33 yJx4a65c_size_8abf5 ∈ z_Ts := z_m 1125 (by decide +kernel) (by decide +kernel)
theorem zw_1126 : Cond.instanceMethod yJx4a65c_size_8abf5 ∈ z_Ts := z_m 1126 (by decide +kernel) (by decide +kernel)
theorem zw_1127 : Cond.selects RJx4a65c yJx4a65c_size_8abf5 yJx4a65c_size_8abf5 ∈ z_Ts := z_m 1127 (by decide +kernel) (by decide +kernel)
theorem zw_99 : Cond.initialized RJx4a65c ∈ z_Ts := z_m 99 (by decide +kernel) (by decide +kernel)
theorem zw_1128 : Cond.code yJx4a65c_size_8abf5 cJx4a65c_size_8abf5 1 (some .int) ∈ z_Ts := z_m 1128 (by decide +kernel) (by decide +kernel)
theorem dX8_isUnit_10 : decode cX8_isUnit 10 = .ok (.iconst 1, 1) := by decide +kernel
theorem dX8_isUnit_11 : decode cX8_isUnit 11 = .ok (.isub, 1) := by decide +kernel
theorem dX8_isUnit_12 : decode cX8_isUnit 12 = .ok (.i2l, 1) := by decide +kernel
theorem dX8_isUnit_13 : decode cX8_isUnit 13 = .ok (.invokestatic 37, 3) := by decide +kernel
theorem zw_1118 : Cond.methodLink RX8 37 yX8_in ∈ z_Ts := z_m 1118 (by decide +kernel) (by decide +kernel)
theorem zw_96 : Cond.initialized RX8 ∈ z_Ts := z_m 96 (by decide +kernel) (by decide +kernel)
theorem zw_1120 : Cond.code yX8_in cX8_in 6 (some .boolean) ∈ z_Ts := z_m 1120 (by decide +kernel) (by decide +kernel)
theorem zw_1119 : Cond.static yX8_in ∈ z_Ts := z_m 1119 (by decide +kernel) (by decide +kernel)
theorem dX8_isUnit_16 : decode cX8_isUnit 16 = .ok (.ireturn, 1) := by decide +kernel
set_option maxHeartbeats 4000000 in
set_option maxRecDepth 100000 in
theorem f_X8_isUnit (l : Launch) (D : va_G) (m0 : Nat) (qu : Nat) (qs : Nat) (qc : Nat) (qp : Nat) (th : Int32) (eu : Nat) (a0 : Int32) (sz : Nat)  : Met l yX8_isUnit [Cond.code yX8_isUnit cX8_isUnit 2 (some .boolean)] ({ frames := 2, cells := 0, slots := 0, locals := 60 }) (z_Pc D [.ref m0, .int a0] [(m0, .inr (10, [.int th, .ref qu, .ref qs, .ref qc, .ref qp, .int 0, .int (-1), .int 0, .null])), (qu, .inr (1, [.int 0, .ref eu, .int 0]))] [] sz) (va_Qi (fun (r : Int32) (_ : Unit) => r = 0) (fun _ t => z_W D [(m0, .inr (10, [.int th, .ref qu, .ref qs, .ref qc, .ref qp, .int 0, .int (-1), .int 0, .null])), (qu, .inr (1, [.int 0, .ref eu, .int 0]))] [] (va_A [(m0, .inr (10, [.int th, .ref qu, .ref qs, .ref qc, .ref qp, .int 0, .int (-1), .int 0, .null])), (qu, .inr (1, [.int 0, .ref eu, .int 0]))] sz) t) (va_A [(m0, .inr (10, [.int th, .ref qu, .ref qs, .ref qc, .ref qp, .int 0, .int (-1), .int 0, .null])), (qu, .inr (1, [.int 0, .ref eu, .int 0]))] sz)) 0 0 (va_A [(m0, .inr (10, [.int th, .ref qu, .ref qs, .ref qc, .ref qp, .int 0, .int (-1), .int 0, .null])), (qu, .inr (1, [.int 0, .ref eu, .int 0]))] sz) := by
  refine Met.ofW (cc := cX8_isUnit) (maxL := 2) (ret := (some .boolean)) (by decide +kernel) rfl ?_
  intro p e s m args below meth c s₁ B hml hv
  obtain ⟨rfl, hsz, hP, hK, hD0, hE, hX0⟩ := hv
  have hx := B.exec
  have hb := B.bytes
  have hr := B.returns
  have hts := z_E.ts (args := [.ref m0, .int a0].toArray) hE
  have hown : s.vm.findClass RX8 = some m.cls := findClass_of_methodNamed B.named
  have hlocks := B.notSynchronized
  subst hsz
  have hD := hD0.self (sz := s.heap.size)
  generalize hAe : va_A [(m0, .inr (10, [.int th, .ref qu, .ref qs, .ref qc, .ref qp, .int 0, .int (-1), .int 0, .null])), (qu, .inr (1, [.int 0, .ref eu, .int 0]))] s.heap.size = A at hD hX0 ⊢
  have hX : z_X D A s s.heap := hX0
  have hA : ∀ q : Nat, s.heap.size ≤ q → A q := fun q h => by rw [← hAe]; exact Or.inr h
  have hS : va_S A s.heap s.heap [] := va_S.rf
  have hP : va_P D vwCl [(m0, .inr (10, [.int th, .ref qu, .ref qs, .ref qc, .ref qp, .int 0, .int (-1), .int 0, .null])), (qu, .inr (1, [.int 0, .ref eu, .int 0]))] s.heap := hP
  have hl := lv_entry ([.ref m0, .int a0]) (n := 2) (Nat.le_of_ble_eq_true rfl)
  rw [lg_entry_eq]
  generalize (lg_sl ([.ref m0, .int a0]) ++ List.replicate (2 - (lg_sl ([.ref m0, .int a0])).length) Slot.unset).toArray = ls at hl ⊢
  have hl : lv_has ls 2 [(0, .ref m0), (1, .int a0)] := hl
  skip
  refine lv_iload_n hx hb dX8_isUnit_0 rfl (lv_at hl 1 rfl) ?_
  refine lv_i2l hx hb dX8_isUnit_1 rfl ?_
  refine lv_lconst (v := 0) hx hb dX8_isUnit_2 (by decide) ?_
  refine lv_aload_n hx hb dX8_isUnit_3 rfl (lv_at hl 0 rfl) ?_
  refine va_get (D := D) (ci := 10) (v := .ref qu) (C := RX8) (T := TX8) (N := 9) hx hb hts zin_X8 hown hK hP 0 rfl rfl 1 (by decide) (hts _ zw_1081) (fun _ h9 => h9) rfl dX8_isUnit_4 ?_
  obtain ⟨hb_1, hc_1⟩ := z_call (wc := [(qu, .inr (1, [.int 0, .ref eu, .int 0]))]) (tc := []) ([.ref qu]) hP hK hD hS hA hE hX [1] rfl rfl [] rfl
  have hF_1 := va_free (wc := [(qu, .inr (1, [.int 0, .ref eu, .int 0]))]) hD hS hA [1] rfl
  refine va_calli (va_runV (As := []) (rest := [.long 0, .long (a0).toInt64]) ⟨hx, hb, hml, hown, hts⟩ (c_J_size l D qu 0 eu 0 _ ) (z_cV 0 hE zw_1125 zw_1126 zw_1127 zw_99 zw_1128 rfl rfl rfl (by decide +kernel) ⟨(Nat.le_of_ble_eq_true rfl), (Nat.le_of_ble_eq_true rfl)⟩) ⟨hb_1, va_recv hK hP (ci := 1) (q0 := 1) rfl rfl, hc_1⟩ rfl rfl hl.1 rfl (lv_room (Nat.le_of_ble_eq_true rfl)) dX8_isUnit_7 ⟨(Nat.le_of_ble_eq_true rfl), (Nat.le_of_ble_eq_true rfl)⟩) hS (fun q _ h => hF_1 q h) hF_1 (fun r_1 u_1 t_1 H1 locs ht_1 hvm_1 hw_1 hB_1 hz_1 hk_1 hS1 => ?_)
  obtain ⟨hP, hK, hD⟩ := z_back (wc := [(qu, .inr (1, [.int 0, .ref eu, .int 0]))]) (wr := [(m0, .inr (10, [.int th, .ref qu, .ref qs, .ref qc, .ref qp, .int 0, .int (-1), .int 0, .null]))]) (w1 := [(qu, .inr (1, [.int 0, .ref eu, .int 0]))]) (tr := []) hP hK hD [1] [0] rfl rfl rfl (by decide) ht_1 hvm_1 hk_1 hF_1 [] rfl hB_1
  have hS := hS1
  have hP : va_P D vwCl [(m0, .inr (10, [.int th, .ref qu, .ref qs, .ref qc, .ref qp, .int 0, .int (-1), .int 0, .null])), (qu, .inr (1, [.int 0, .ref eu, .int 0]))] H1 := hP
  have hD : va_D A [(m0, .inr (10, [.int th, .ref qu, .ref qs, .ref qc, .ref qp, .int 0, .int (-1), .int 0, .null])), (qu, .inr (1, [.int 0, .ref eu, .int 0]))] := hD
  have hK : va_K D vwCl [] s := hK
  clear hS1
  obtain rfl : r_1 = 0 := hw_1
  refine lv_iconst (v := 1) hx hb dX8_isUnit_10 (by decide) ?_
  refine lv_isub hx hb dX8_isUnit_11 ?_
  refine lv_topi (fun x_2 ex_2 => ?_)
  obtain rfl : x_2 = (-1) := ex_2.trans (by first | rfl | decide | simp)
  refine lv_i2l (v := (-1)) hx hb dX8_isUnit_12 (by decide) ?_
  obtain ⟨hb_3, hc_3⟩ := z_call (wc := []) (tc := []) ([.long (a0).toInt64, .long 0, .long (-1)]) hP hK hD hS hA hE hX [] rfl rfl [] rfl
  have hF_3 := va_free (wc := []) hD hS hA [] rfl
  refine va_calli (va_runS (As := [.long (a0).toInt64, .long 0, .long (-1)]) (rest := []) ⟨hx, hb, hml, hown, hts⟩ (c_X8_in l D ((a0).toInt64) 0 (-1) _ ) (⟨z_cB 3 hE zw_1118 zw_96 zw_1120 rfl rfl rfl (by decide +kernel) ⟨(Nat.le_of_ble_eq_true rfl), (Nat.le_of_ble_eq_true rfl)⟩, hE.ts _ zw_1119⟩) ⟨hb_3, hc_3⟩ rfl rfl hl.1 rfl (lv_room (Nat.le_of_ble_eq_true rfl)) dX8_isUnit_13 ⟨(Nat.le_of_ble_eq_true rfl), (Nat.le_of_ble_eq_true rfl)⟩) hS (fun q _ h => hF_3 q h) hF_3 (fun r_3 u_3 t_3 H1 locs ht_3 hvm_3 hw_3 hB_3 hz_3 hk_3 hS1 => ?_)
  obtain ⟨hP, hK, hD⟩ := z_back (wc := []) (wr := [(m0, .inr (10, [.int th, .ref qu, .ref qs, .ref qc, .ref qp, .int 0, .int (-1), .int 0, .null])), (qu, .inr (1, [.int 0, .ref eu, .int 0]))]) (w1 := []) (tr := []) hP hK hD [] [0, 1] rfl rfl rfl (by decide) ht_3 hvm_3 hk_3 hF_3 [] rfl hB_3
  have hS := hS1
  have hP : va_P D vwCl [(m0, .inr (10, [.int th, .ref qu, .ref qs, .ref qc, .ref qp, .int 0, .int (-1), .int 0, .null])), (qu, .inr (1, [.int 0, .ref eu, .int 0]))] H1 := hP
  have hD : va_D A [(m0, .inr (10, [.int th, .ref qu, .ref qs, .ref qc, .ref qp, .int 0, .int (-1), .int 0, .null])), (qu, .inr (1, [.int 0, .ref eu, .int 0]))] := hD
  have hK : va_K D vwCl [] s := hK
  clear hS1
  obtain rfl : r_3 = 0 := z_in0 hw_3
  exact W.zret (v := 0) hx hb hr (by first | rfl | decide) (fun t ht hW => ⟨⟨0, (), rfl, rfl, z_end hP hK hD [0, 1] rfl rfl [] rfl ht hW.alike⟩, hS.F ht⟩) hS.2.2 dX8_isUnit_16
theorem dX8_noUnit_0 : decode cX8_noUnit 0 = .ok (.aload_n 0, 1) := by decide +kernel
theorem dX8_noUnit_1 : decode cX8_noUnit 1 = .ok (.aload_n 0, 1) := by decide +kernel
theorem dX8_noUnit_2 : decode cX8_noUnit 2 = .ok (.iload_n 1, 1) := by decide +kernel
theorem dX8_noUnit_3 : decode cX8_noUnit 3 = .ok (.invokevirtual 41, 3) := by decide +kernel
theorem zw_1225 : Cond.methodLink RX8 41 yX8_isUnit ∈ z_Ts := z_m 1225 (by decide +kernel) (by decide +kernel)
theorem zw_1227 : Cond.instanceMethod yX8_isUnit ∈ z_Ts := z_m 1227 (by decide +kernel) (by decide +kernel)
theorem zw_62 : Cond.selects RX8 yX8_isUnit yX8_isUnit ∈ z_Ts := z_m 62 (by decide +kernel) (by decide +kernel)
theorem zw_1228 : Cond.code yX8_isUnit cX8_isUnit 2 (some .boolean) ∈ z_Ts := z_m 1228 (by decide +kernel) (by decide +kernel)
theorem dX8_noUnit_6 : decode cX8_noUnit 6 = .ok (.ifCond .eq 7, 3) := by decide +kernel
theorem dX8_noUnit_13 : decode cX8_noUnit 13 = .ok (.iconst 1, 1) := by decide +kernel
theorem dX8_noUnit_14 : decode cX8_noUnit 14 = .ok (.putfield 30, 3) := by decide +kernel
theorem zw_1080 : Cond.fieldLink RX8 30 "TwofrontArcadeModel" "thrown" "I" ∈ z_Ts := z_m 1080 (by decide +kernel) (by decide +kernel)
theorem dX8_noUnit_17 : decode cX8_noUnit 17 = .ok (.aload_n 0, 1) := by decide +kernel
theorem dX8_noUnit_18 : decode cX8_noUnit 18 = .ok (.getfield 30, 3) := by decide +kernel
theorem dX8_noUnit_21 : decode cX8_noUnit 21 = .ok (.ifCond .le 7, 3) := by decide +kernel
theorem dX8_noUnit_24 : decode cX8_noUnit 24 = .ok (.iconst 1, 1) := by decide +kernel
theorem dX8_noUnit_25 : decode cX8_noUnit 25 = .ok (.goto 4, 3) := by decide +kernel
theorem dX8_noUnit_29 : decode cX8_noUnit 29 = .ok (.ireturn, 1) := by decide +kernel
set_option maxHeartbeats 4000000 in
set_option maxRecDepth 100000 in
theorem f_X8_noUnit (l : Launch) (D : va_G) (m0 : Nat) (qu : Nat) (qs : Nat) (qc : Nat) (qp : Nat) (th : Int32) (eu : Nat) (a0 : Int32) (sz : Nat)  : Met l yX8_noUnit [Cond.code yX8_noUnit cX8_noUnit 2 (some .boolean)] ({ frames := 3, cells := 0, slots := 0, locals := 90 }) (z_Pc D [.ref m0, .int a0] [(m0, .inr (10, [.int th, .ref qu, .ref qs, .ref qc, .ref qp, .int 0, .int (-1), .int 0, .null])), (qu, .inr (1, [.int 0, .ref eu, .int 0]))] [] sz) (va_Qi (fun (r : Int32) (_ : Unit) => r = 1) (fun _ t => z_W D [(m0, .inr (10, [.int 1, .ref qu, .ref qs, .ref qc, .ref qp, .int 0, .int (-1), .int 0, .null])), (qu, .inr (1, [.int 0, .ref eu, .int 0]))] [] (va_A [(m0, .inr (10, [.int th, .ref qu, .ref qs, .ref qc, .ref qp, .int 0, .int (-1), .int 0, .null])), (qu, .inr (1, [.int 0, .ref eu, .int 0]))] sz) t) (va_A [(m0, .inr (10, [.int th, .ref qu, .ref qs, .ref qc, .ref qp, .int 0, .int (-1), .int 0, .null])), (qu, .inr (1, [.int 0, .ref eu, .int 0]))] sz)) 0 0 (va_A [(m0, .inr (10, [.int th, .ref qu, .ref qs, .ref qc, .ref qp, .int 0, .int (-1), .int 0, .null])), (qu, .inr (1, [.int 0, .ref eu, .int 0]))] sz) := by
  refine Met.ofW (cc := cX8_noUnit) (maxL := 2) (ret := (some .boolean)) (by decide +kernel) rfl ?_
  intro p e s m args below meth c s₁ B hml hv
  obtain ⟨rfl, hsz, hP, hK, hD0, hE, hX0⟩ := hv
  have hx := B.exec
  have hb := B.bytes
  have hr := B.returns
  have hts := z_E.ts (args := [.ref m0, .int a0].toArray) hE
  have hown : s.vm.findClass RX8 = some m.cls := findClass_of_methodNamed B.named
  have hlocks := B.notSynchronized
  subst hsz
  have hD := hD0.self (sz := s.heap.size)
  generalize hAe : va_A [(m0, .inr (10, [.int th, .ref qu, .ref qs, .ref qc, .ref qp, .int 0, .int (-1), .int 0, .null])), (qu, .inr (1, [.int 0, .ref eu, .int 0]))] s.heap.size = A at hD hX0 ⊢
  have hX : z_X D A s s.heap := hX0
  have hA : ∀ q : Nat, s.heap.size ≤ q → A q := fun q h => by rw [← hAe]; exact Or.inr h
  have hS : va_S A s.heap s.heap [] := va_S.rf
  have hP : va_P D vwCl [(m0, .inr (10, [.int th, .ref qu, .ref qs, .ref qc, .ref qp, .int 0, .int (-1), .int 0, .null])), (qu, .inr (1, [.int 0, .ref eu, .int 0]))] s.heap := hP
  have hl := lv_entry ([.ref m0, .int a0]) (n := 2) (Nat.le_of_ble_eq_true rfl)
  rw [lg_entry_eq]
  generalize (lg_sl ([.ref m0, .int a0]) ++ List.replicate (2 - (lg_sl ([.ref m0, .int a0])).length) Slot.unset).toArray = ls at hl ⊢
  have hl : lv_has ls 2 [(0, .ref m0), (1, .int a0)] := hl
  skip
  refine lv_aload_n hx hb dX8_noUnit_0 rfl (lv_at hl 0 rfl) ?_
  refine lv_aload_n hx hb dX8_noUnit_1 rfl (lv_at hl 0 rfl) ?_
  refine lv_iload_n hx hb dX8_noUnit_2 rfl (lv_at hl 1 rfl) ?_
  obtain ⟨hb_1, hc_1⟩ := z_call (wc := [(m0, .inr (10, [.int th, .ref qu, .ref qs, .ref qc, .ref qp, .int 0, .int (-1), .int 0, .null])), (qu, .inr (1, [.int 0, .ref eu, .int 0]))]) (tc := []) ([.ref m0, .int a0]) hP hK hD hS hA hE hX [0, 1] rfl rfl [] rfl
  have hF_1 := va_free (wc := [(m0, .inr (10, [.int th, .ref qu, .ref qs, .ref qc, .ref qp, .int 0, .int (-1), .int 0, .null])), (qu, .inr (1, [.int 0, .ref eu, .int 0]))]) hD hS hA [0, 1] rfl
  refine va_calli (va_runV (As := [.int a0]) (rest := [.ref m0]) ⟨hx, hb, hml, hown, hts⟩ (f_X8_isUnit l D m0 qu qs qc qp th eu a0 _ ) (z_cV 1 hE zw_1225 zw_1227 zw_62 zw_96 zw_1228 rfl rfl rfl (by decide +kernel) ⟨(Nat.le_of_ble_eq_true rfl), (Nat.le_of_ble_eq_true rfl)⟩) ⟨hb_1, va_recv hK hP (ci := 10) (q0 := 0) rfl rfl, hc_1⟩ rfl rfl hl.1 rfl (lv_room (Nat.le_of_ble_eq_true rfl)) dX8_noUnit_3 ⟨(Nat.le_of_ble_eq_true rfl), (Nat.le_of_ble_eq_true rfl)⟩) hS (fun q _ h => hF_1 q h) hF_1 (fun r_1 u_1 t_1 H1 locs ht_1 hvm_1 hw_1 hB_1 hz_1 hk_1 hS1 => ?_)
  obtain ⟨hP, hK, hD⟩ := z_back (wc := [(m0, .inr (10, [.int th, .ref qu, .ref qs, .ref qc, .ref qp, .int 0, .int (-1), .int 0, .null])), (qu, .inr (1, [.int 0, .ref eu, .int 0]))]) (wr := []) (w1 := [(m0, .inr (10, [.int th, .ref qu, .ref qs, .ref qc, .ref qp, .int 0, .int (-1), .int 0, .null])), (qu, .inr (1, [.int 0, .ref eu, .int 0]))]) (tr := []) hP hK hD [0, 1] [] rfl rfl rfl (by decide) ht_1 hvm_1 hk_1 hF_1 [] rfl hB_1
  have hS := hS1
  have hP : va_P D vwCl [(m0, .inr (10, [.int th, .ref qu, .ref qs, .ref qc, .ref qp, .int 0, .int (-1), .int 0, .null])), (qu, .inr (1, [.int 0, .ref eu, .int 0]))] H1 := hP
  have hD : va_D A [(m0, .inr (10, [.int th, .ref qu, .ref qs, .ref qc, .ref qp, .int 0, .int (-1), .int 0, .null])), (qu, .inr (1, [.int 0, .ref eu, .int 0]))] := hD
  have hK : va_K D vwCl [] s := hK
  clear hS1
  obtain rfl : r_1 = 0 := hw_1
  refine lv_if_eq (tgt := 13) hx hb dX8_noUnit_6 (by decide) (fun c_2 => ?_) (fun c_2 => absurd (by decide) c_2)
  refine lv_iconst (v := 1) hx hb dX8_noUnit_13 (by decide) ?_
  refine va_put (D := D) (ci := 10) (v := .int 1) (ty := .int) (C := RX8) (T := TX8) (N := 9) hx hb hts zin_X8 tyX8 tyX8_ok nmX8 hown hK hP hD hS 0 rfl rfl 0 (by decide) (hts _ zw_1080) (fun _ h9 => h9) rfl (by decide +kernel) rfl rfl (Nat.le_of_ble_eq_true rfl) dX8_noUnit_14 (fun H locs hP hD hS => ?_)
  have hP : va_P D vwCl [(m0, .inr (10, [.int 1, .ref qu, .ref qs, .ref qc, .ref qp, .int 0, .int (-1), .int 0, .null])), (qu, .inr (1, [.int 0, .ref eu, .int 0]))] H := hP
  have hD : va_D A [(m0, .inr (10, [.int 1, .ref qu, .ref qs, .ref qc, .ref qp, .int 0, .int (-1), .int 0, .null])), (qu, .inr (1, [.int 0, .ref eu, .int 0]))] := hD
  refine lv_aload_n hx hb dX8_noUnit_17 rfl (lv_at hl 0 rfl) ?_
  refine va_get (D := D) (ci := 10) (v := .int 1) (C := RX8) (T := TX8) (N := 9) hx hb hts zin_X8 hown hK hP 0 rfl rfl 0 (by decide) (hts _ zw_1080) (fun _ h9 => h9) rfl dX8_noUnit_18 ?_
  refine lv_if_le (tgt := 28) hx hb dX8_noUnit_21 (by decide) (fun c_3 => absurd c_3 (by decide)) (fun c_3 => ?_)
  refine lv_iconst (v := 1) hx hb dX8_noUnit_24 (by decide) ?_
  refine lv_goto (tgt := 29) hx hb dX8_noUnit_25 (by decide) ?_
  exact W.zret (v := 1) hx hb hr (by first | rfl | decide) (fun t ht hW => ⟨⟨1, (), rfl, rfl, z_end hP hK hD [0, 1] rfl rfl [] rfl ht hW.alike⟩, hS.F ht⟩) hS.2.2 dX8_noUnit_29
theorem dX8_noShop_0 : decode cX8_noShop 0 = .ok (.aload_n 0, 1) := by decide +kernel
theorem dX8_noShop_1 : decode cX8_noShop 1 = .ok (.iload_n 1, 1) := by decide +kernel
theorem dX8_noShop_2 : decode cX8_noShop 2 = .ok (.i2l, 1) := by decide +kernel
theorem dX8_noShop_3 : decode cX8_noShop 3 = .ok (.lconst 0, 1) := by decide +kernel
theorem dX8_noShop_4 : decode cX8_noShop 4 = .ok (.aload_n 0, 1) := by decide +kernel
theorem dX8_noShop_5 : decode cX8_noShop 5 = .ok (.getfield 16, 3) := by decide +kernel
theorem zw_1082 : Cond.fieldLink RX8 16 "TwofrontArcadeModel" "shops" "Ljava/util/ArrayList;" ∈ z_Ts := z_m 1082 (by decide +kernel) (by decide +kernel)
theorem dX8_noShop_8 : decode cX8_noShop 8 = .ok (.invokevirtual 33, 3) := by decide +kernel
theorem dX8_noShop_11 : decode cX8_noShop 11 = .ok (.iconst 1, 1) := by decide +kernel
theorem dX8_noShop_12 : decode cX8_noShop 12 = .ok (.isub, 1) := by decide +kernel
theorem dX8_noShop_13 : decode cX8_noShop 13 = .ok (.i2l, 1) := by decide +kernel
theorem dX8_noShop_14 : decode cX8_noShop 14 = .ok (.invokestatic 37, 3) := by decide +kernel
theorem dX8_noShop_17 : decode cX8_noShop 17 = .ok (.ifCond .eq 7, 3) := by decide +kernel
theorem dX8_noShop_24 : decode cX8_noShop 24 = .ok (.iconst 1, 1) := by decide +kernel
theorem dX8_noShop_25 : decode cX8_noShop 25 = .ok (.putfield 30, 3) := by decide +kernel
theorem dX8_noShop_28 : decode cX8_noShop 28 = .ok (.aload_n 0, 1) := by decide +kernel
theorem dX8_noShop_29 : decode cX8_noShop 29 = .ok (.getfield 30, 3) := by decide +kernel
theorem dX8_noShop_32 : decode cX8_noShop 32 = .ok (.ifCond .le 7, 3) := by decide +kernel
theorem dX8_noShop_35 : decode cX8_noShop 35 = .ok (.iconst 1, 1) := by decide +kernel
theorem dX8_noShop_36 : decode cX8_noShop 36 = .ok (.goto 4, 3) := by decide +kernel
theorem dX8_noShop_40 : decode cX8_noShop 40 = .ok (.ireturn, 1) := by decide +kernel
set_option maxHeartbeats 4000000 in
set_option maxRecDepth 100000 in
theorem f_X8_noShop (l : Launch) (D : va_G) (m0 : Nat) (qu : Nat) (qs : Nat) (qc : Nat) (qp : Nat) (th : Int32) (es : Nat) (a0 : Int32) (sz : Nat)  : Met l yX8_noShop [Cond.code yX8_noShop cX8_noShop 2 (some .boolean)] ({ frames := 3, cells := 0, slots := 0, locals := 90 }) (z_Pc D [.ref m0, .int a0] [(m0, .inr (10, [.int th, .ref qu, .ref qs, .ref qc, .ref qp, .int 0, .int (-1), .int 0, .null])), (qs, .inr (1, [.int 0, .ref es, .int 0]))] [] sz) (va_Qi (fun (r : Int32) (_ : Unit) => r = 1) (fun _ t => z_W D [(m0, .inr (10, [.int 1, .ref qu, .ref qs, .ref qc, .ref qp, .int 0, .int (-1), .int 0, .null])), (qs, .inr (1, [.int 0, .ref es, .int 0]))] [] (va_A [(m0, .inr (10, [.int th, .ref qu, .ref qs, .ref qc, .ref qp, .int 0, .int (-1), .int 0, .null])), (qs, .inr (1, [.int 0, .ref es, .int 0]))] sz) t) (va_A [(m0, .inr (10, [.int th, .ref qu, .ref qs, .ref qc, .ref qp, .int 0, .int (-1), .int 0, .null])), (qs, .inr (1, [.int 0, .ref es, .int 0]))] sz)) 0 0 (va_A [(m0, .inr (10, [.int th, .ref qu, .ref qs, .ref qc, .ref qp, .int 0, .int (-1), .int 0, .null])), (qs, .inr (1, [.int 0, .ref es, .int 0]))] sz) := by
  refine Met.ofW (cc := cX8_noShop) (maxL := 2) (ret := (some .boolean)) (by decide +kernel) rfl ?_
  intro p e s m args below meth c s₁ B hml hv
  obtain ⟨rfl, hsz, hP, hK, hD0, hE, hX0⟩ := hv
  have hx := B.exec
  have hb := B.bytes
  have hr := B.returns
  have hts := z_E.ts (args := [.ref m0, .int a0].toArray) hE
  have hown : s.vm.findClass RX8 = some m.cls := findClass_of_methodNamed B.named
  have hlocks := B.notSynchronized
  subst hsz
  have hD := hD0.self (sz := s.heap.size)
  generalize hAe : va_A [(m0, .inr (10, [.int th, .ref qu, .ref qs, .ref qc, .ref qp, .int 0, .int (-1), .int 0, .null])), (qs, .inr (1, [.int 0, .ref es, .int 0]))] s.heap.size = A at hD hX0 ⊢
  have hX : z_X D A s s.heap := hX0
  have hA : ∀ q : Nat, s.heap.size ≤ q → A q := fun q h => by rw [← hAe]; exact Or.inr h
  have hS : va_S A s.heap s.heap [] := va_S.rf
  have hP : va_P D vwCl [(m0, .inr (10, [.int th, .ref qu, .ref qs, .ref qc, .ref qp, .int 0, .int (-1), .int 0, .null])), (qs, .inr (1, [.int 0, .ref es, .int 0]))] s.heap := hP
  have hl := lv_entry ([.ref m0, .int a0]) (n := 2) (Nat.le_of_ble_eq_true rfl)
  rw [lg_entry_eq]
  generalize (lg_sl ([.ref m0, .int a0]) ++ List.replicate (2 - (lg_sl ([.ref m0, .int a0])).length) Slot.unset).toArray = ls at hl ⊢
  have hl : lv_has ls 2 [(0, .ref m0), (1, .int a0)] := hl
  skip
  refine lv_aload_n hx hb dX8_noShop_0 rfl (lv_at hl 0 rfl) ?_
  refine lv_iload_n hx hb dX8_noShop_1 rfl (lv_at hl 1 rfl) ?_
  refine lv_i2l hx hb dX8_noShop_2 rfl ?_
  refine lv_lconst (v := 0) hx hb dX8_noShop_3 (by decide) ?_
  refine lv_aload_n hx hb dX8_noShop_4 rfl (lv_at hl 0 rfl) ?_
  refine va_get (D := D) (ci := 10) (v := .ref qs) (C := RX8) (T := TX8) (N := 9) hx hb hts zin_X8 hown hK hP 0 rfl rfl 2 (by decide) (hts _ zw_1082) (fun _ h9 => h9) rfl dX8_noShop_5 ?_
  obtain ⟨hb_1, hc_1⟩ := z_call (wc := [(qs, .inr (1, [.int 0, .ref es, .int 0]))]) (tc := []) ([.ref qs]) hP hK hD hS hA hE hX [1] rfl rfl [] rfl
  have hF_1 := va_free (wc := [(qs, .inr (1, [.int 0, .ref es, .int 0]))]) hD hS hA [1] rfl
  refine va_calli (va_runV (As := []) (rest := [.long 0, .long (a0).toInt64, .ref m0]) ⟨hx, hb, hml, hown, hts⟩ (c_J_size l D qs 0 es 0 _ ) (z_cV 0 hE zw_1125 zw_1126 zw_1127 zw_99 zw_1128 rfl rfl rfl (by decide +kernel) ⟨(Nat.le_of_ble_eq_true rfl), (Nat.le_of_ble_eq_true rfl)⟩) ⟨hb_1, va_recv hK hP (ci := 1) (q0 := 1) rfl rfl, hc_1⟩ rfl rfl hl.1 rfl (lv_room (Nat.le_of_ble_eq_true rfl)) dX8_noShop_8 ⟨(Nat.le_of_ble_eq_true rfl), (Nat.le_of_ble_eq_true rfl)⟩) hS (fun q _ h => hF_1 q h) hF_1 (fun r_1 u_1 t_1 H1 locs ht_1 hvm_1 hw_1 hB_1 hz_1 hk_1 hS1 => ?_)
  obtain ⟨hP, hK, hD⟩ := z_back (wc := [(qs, .inr (1, [.int 0, .ref es, .int 0]))]) (wr := [(m0, .inr (10, [.int th, .ref qu, .ref qs, .ref qc, .ref qp, .int 0, .int (-1), .int 0, .null]))]) (w1 := [(qs, .inr (1, [.int 0, .ref es, .int 0]))]) (tr := []) hP hK hD [1] [0] rfl rfl rfl (by decide) ht_1 hvm_1 hk_1 hF_1 [] rfl hB_1
  have hS := hS1
  have hP : va_P D vwCl [(m0, .inr (10, [.int th, .ref qu, .ref qs, .ref qc, .ref qp, .int 0, .int (-1), .int 0, .null])), (qs, .inr (1, [.int 0, .ref es, .int 0]))] H1 := hP
  have hD : va_D A [(m0, .inr (10, [.int th, .ref qu, .ref qs, .ref qc, .ref qp, .int 0, .int (-1), .int 0, .null])), (qs, .inr (1, [.int 0, .ref es, .int 0]))] := hD
  have hK : va_K D vwCl [] s := hK
  clear hS1
  obtain rfl : r_1 = 0 := hw_1
  refine lv_iconst (v := 1) hx hb dX8_noShop_11 (by decide) ?_
  refine lv_isub hx hb dX8_noShop_12 ?_
  refine lv_topi (fun x_2 ex_2 => ?_)
  obtain rfl : x_2 = (-1) := ex_2.trans (by first | rfl | decide | simp)
  refine lv_i2l (v := (-1)) hx hb dX8_noShop_13 (by decide) ?_
  obtain ⟨hb_3, hc_3⟩ := z_call (wc := []) (tc := []) ([.long (a0).toInt64, .long 0, .long (-1)]) hP hK hD hS hA hE hX [] rfl rfl [] rfl
  have hF_3 := va_free (wc := []) hD hS hA [] rfl
  refine va_calli (va_runS (As := [.long (a0).toInt64, .long 0, .long (-1)]) (rest := [.ref m0]) ⟨hx, hb, hml, hown, hts⟩ (c_X8_in l D ((a0).toInt64) 0 (-1) _ ) (⟨z_cB 3 hE zw_1118 zw_96 zw_1120 rfl rfl rfl (by decide +kernel) ⟨(Nat.le_of_ble_eq_true rfl), (Nat.le_of_ble_eq_true rfl)⟩, hE.ts _ zw_1119⟩) ⟨hb_3, hc_3⟩ rfl rfl hl.1 rfl (lv_room (Nat.le_of_ble_eq_true rfl)) dX8_noShop_14 ⟨(Nat.le_of_ble_eq_true rfl), (Nat.le_of_ble_eq_true rfl)⟩) hS (fun q _ h => hF_3 q h) hF_3 (fun r_3 u_3 t_3 H1 locs ht_3 hvm_3 hw_3 hB_3 hz_3 hk_3 hS1 => ?_)
  obtain ⟨hP, hK, hD⟩ := z_back (wc := []) (wr := [(m0, .inr (10, [.int th, .ref qu, .ref qs, .ref qc, .ref qp, .int 0, .int (-1), .int 0, .null])), (qs, .inr (1, [.int 0, .ref es, .int 0]))]) (w1 := []) (tr := []) hP hK hD [] [0, 1] rfl rfl rfl (by decide) ht_3 hvm_3 hk_3 hF_3 [] rfl hB_3
  have hS := hS1
  have hP : va_P D vwCl [(m0, .inr (10, [.int th, .ref qu, .ref qs, .ref qc, .ref qp, .int 0, .int (-1), .int 0, .null])), (qs, .inr (1, [.int 0, .ref es, .int 0]))] H1 := hP
  have hD : va_D A [(m0, .inr (10, [.int th, .ref qu, .ref qs, .ref qc, .ref qp, .int 0, .int (-1), .int 0, .null])), (qs, .inr (1, [.int 0, .ref es, .int 0]))] := hD
  have hK : va_K D vwCl [] s := hK
  clear hS1
  obtain rfl : r_3 = 0 := z_in0 hw_3
  refine lv_if_eq (tgt := 24) hx hb dX8_noShop_17 (by decide) (fun c_4 => ?_) (fun c_4 => absurd (by decide) c_4)
  refine lv_iconst (v := 1) hx hb dX8_noShop_24 (by decide) ?_
  refine va_put (D := D) (ci := 10) (v := .int 1) (ty := .int) (C := RX8) (T := TX8) (N := 9) hx hb hts zin_X8 tyX8 tyX8_ok nmX8 hown hK hP hD hS 0 rfl rfl 0 (by decide) (hts _ zw_1080) (fun _ h9 => h9) rfl (by decide +kernel) rfl rfl (Nat.le_of_ble_eq_true rfl) dX8_noShop_25 (fun H locs hP hD hS => ?_)
  have hP : va_P D vwCl [(m0, .inr (10, [.int 1, .ref qu, .ref qs, .ref qc, .ref qp, .int 0, .int (-1), .int 0, .null])), (qs, .inr (1, [.int 0, .ref es, .int 0]))] H := hP
  have hD : va_D A [(m0, .inr (10, [.int 1, .ref qu, .ref qs, .ref qc, .ref qp, .int 0, .int (-1), .int 0, .null])), (qs, .inr (1, [.int 0, .ref es, .int 0]))] := hD
  refine lv_aload_n hx hb dX8_noShop_28 rfl (lv_at hl 0 rfl) ?_
  refine va_get (D := D) (ci := 10) (v := .int 1) (C := RX8) (T := TX8) (N := 9) hx hb hts zin_X8 hown hK hP 0 rfl rfl 0 (by decide) (hts _ zw_1080) (fun _ h9 => h9) rfl dX8_noShop_29 ?_
  refine lv_if_le (tgt := 39) hx hb dX8_noShop_32 (by decide) (fun c_5 => absurd c_5 (by decide)) (fun c_5 => ?_)
  refine lv_iconst (v := 1) hx hb dX8_noShop_35 (by decide) ?_
  refine lv_goto (tgt := 40) hx hb dX8_noShop_36 (by decide) ?_
  exact W.zret (v := 1) hx hb hr (by first | rfl | decide) (fun t ht hW => ⟨⟨1, (), rfl, rfl, z_end hP hK hD [0, 1] rfl rfl [] rfl ht hW.alike⟩, hS.F ht⟩) hS.2.2 dX8_noShop_40
