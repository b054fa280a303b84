theorem z_ldcSW {p : Program} {l : Launch} {e : Env} {R : Room} {s : State} {m : MethodId} {args : Array Value} {below : List Frame} {meth : Method} {c : Code} {H : Heap} {locs : List Loc} {cells slots : Nat} {Q : State → Prop} {cc : ByteArray} {pc : Nat} {ls : Array Slot} {rest : List Value}
    (hexec : p.tables.exec = Jvm.exec) (hb : c.code = cc) {own tx : String} {index q : Nat} (hown : s.vm.findClass own = some m.cls) (hZ : vk_R own index tx q s) (hdg : decode cc pc = .ok (.ldc_w index, 3))
    (k : W p l e R s m args below meth c H locs cells slots Q (F0 m (pc + 3) ls (.ref q :: rest))) : W p l e R s m args below meth c H locs cells slots Q (F0 m pc ls rest) := by
  intro T hT X
  obtain ⟨t, a1, b1⟩ := k T hT X
  exact ⟨t, X.ldcStringW hexec hown (text := tx) (a := q) hZ.1 hZ.2 (g := F0 m pc ls rest) rfl (by rw [hb]; exact hdg) t a1, b1⟩
theorem dJ0_coder_7d493_0 : decode cJ0_coder_7d493 0 = .ok (.getstatic 38, 3) := by decide +kernel
theorem zw_1579 : Cond.fieldLink RJ0 38 "java/lang/String" "COMPACT_STRINGS" "Z" ∈ z_Ts := z_m 1579 (by decide +kernel) (by decide +kernel)
theorem dJ0_coder_7d493_3 : decode cJ0_coder_7d493 3 = .ok (.ifCond .eq 10, 3) := by decide +kernel
theorem dJ0_coder_7d493_6 : decode cJ0_coder_7d493 6 = .ok (.aload_n 0, 1) := by decide +kernel
theorem dJ0_coder_7d493_7 : decode cJ0_coder_7d493 7 = .ok (.getfield 15, 3) := by decide +kernel
theorem zw_1781 : Cond.fieldLink RJ0 15 "java/lang/String" "coder" "B" ∈ z_Ts := z_m 1781 (by decide +kernel) (by decide +kernel)
theorem dJ0_coder_7d493_10 : decode cJ0_coder_7d493 10 = .ok (.goto 4, 3) := by decide +kernel
theorem dJ0_coder_7d493_14 : decode cJ0_coder_7d493 14 = .ok (.ireturn, 1) := by decide +kernel
set_option maxHeartbeats 4000000 in
set_option maxRecDepth 100000 in
theorem c_S_coder (l : Launch) (D : va_G)  (sz : Nat)  : Met l yJ0_coder_7d493 [Cond.code yJ0_coder_7d493 cJ0_coder_7d493 1 (some .byte)] ({ frames := 0, cells := 0, slots := 0, locals := 0 }) (z_Pc D [.ref (D.2 51 0)] [] [] sz) (va_Qi (fun (r : Int32) (_ : Unit) => r = 0) (fun _ t => z_W D [] [] (va_A [] sz) t) (va_A [] sz)) 0 0 (va_A [] sz) := by
  refine Met.ofW (cc := cJ0_coder_7d493) (maxL := 1) (ret := (some .byte)) (by decide +kernel) rfl ?_
  intro p e s m args below meth c s₁ B hml hv
  obtain ⟨rfl, hsz, hP, hK, hD0, hE, hX0⟩ := hv
  have hx := B.exec
  have hb := B.bytes
  have hr := B.returns
  have hts := z_E.ts (args := [.ref (D.2 51 0)].toArray) hE
  have hown : s.vm.findClass RJ0 = some m.cls := findClass_of_methodNamed B.named
  have hlocks := B.notSynchronized
  subst hsz
  have hD := hD0.self (sz := s.heap.size)
  generalize hAe : va_A [] s.heap.size = A at hD hX0 ⊢
  have hX : z_X D A s s.heap := hX0
  have hA : ∀ q : Nat, s.heap.size ≤ q → A q := fun q h => by rw [← hAe]; exact Or.inr h
  have hS : va_S A s.heap s.heap [] := va_S.rf
  have hP : va_P D vwCl [] s.heap := hP
  have hl := lv_entry ([.ref (D.2 51 0)]) (n := 1) (Nat.le_of_ble_eq_true rfl)
  rw [lg_entry_eq]
  generalize (lg_sl ([.ref (D.2 51 0)]) ++ List.replicate (1 - (lg_sl ([.ref (D.2 51 0)])).length) Slot.unset).toArray = ls at hl ⊢
  have hl : lv_has ls 1 [(0, .ref (D.2 51 0))] := hl
  skip
  refine va_gets (v := .int 1) hx hb hX.2.2.2.2.2 hS hown (hts _ zw_1579) (fun _ h9 => h9) dJ0_coder_7d493_0 ?_
  refine lv_if_eq (tgt := 13) hx hb dJ0_coder_7d493_3 (by decide) (fun c_1 => absurd c_1 (by decide)) (fun c_1 => ?_)
  refine lv_aload_n hx hb dJ0_coder_7d493_6 rfl (lv_at hl 0 rfl) ?_
  refine vk_getf (v := .int 0) hx hb (hX.2.2.2.2.1.1 0 (by decide)).2.1 hS hown (hts _ zw_1781) (fun _ h9 => h9) dJ0_coder_7d493_7 ?_
  refine lv_goto (tgt := 14) hx hb dJ0_coder_7d493_10 (by decide) ?_
  exact W.zret (v := 0) hx hb hr (by first | rfl | decide) (fun t ht hW => ⟨⟨0, (), rfl, rfl, z_end hP hK hD [] rfl rfl [] rfl ht hW.alike⟩, hS.F ht⟩) hS.2.2 dJ0_coder_7d493_14
theorem dJ0_length_8abf5_0 : decode cJ0_length_8abf5 0 = .ok (.aload_n 0, 1) := by decide +kernel
theorem dJ0_length_8abf5_1 : decode cJ0_length_8abf5 1 = .ok (.getfield 9, 3) := by decide +kernel
theorem zw_1782 : Cond.fieldLink RJ0 9 "java/lang/String" "value" "[B" ∈ z_Ts := z_m 1782 (by decide +kernel) (by decide +kernel)
theorem dJ0_length_8abf5_4 : decode cJ0_length_8abf5 4 = .ok (.arraylength, 1) := by decide +kernel
theorem dJ0_length_8abf5_5 : decode cJ0_length_8abf5 5 = .ok (.aload_n 0, 1) := by decide +kernel
theorem dJ0_length_8abf5_6 : decode cJ0_length_8abf5 6 = .ok (.invokevirtual 335, 3) := by decide +kernel
theorem zw_1585 : Cond.methodLink RJ0 335 yJ0_coder_7d493 ∈ z_Ts := z_m 1585 (by decide +kernel) (by decide +kernel)
theorem zw_1586 : Cond.instanceMethod yJ0_coder_7d493 ∈ z_Ts := z_m 1586 (by decide +kernel) (by decide +kernel)
theorem zw_1587 : Cond.selects RJ0 yJ0_coder_7d493 yJ0_coder_7d493 ∈ z_Ts := z_m 1587 (by decide +kernel) (by decide +kernel)
theorem zw_118 : Cond.initialized RJ0 ∈ z_Ts := z_m 118 (by decide +kernel) (by decide +kernel)
theorem zw_1588 : Cond.code yJ0_coder_7d493 cJ0_coder_7d493 1 (some .byte) ∈ z_Ts := z_m 1588 (by decide +kernel) (by decide +kernel)
theorem dJ0_length_8abf5_9 : decode cJ0_length_8abf5 9 = .ok (.ishr, 1) := by decide +kernel
theorem dJ0_length_8abf5_10 : decode cJ0_length_8abf5 10 = .ok (.ireturn, 1) := by decide +kernel
set_option maxHeartbeats 4000000 in
set_option maxRecDepth 100000 in
theorem c_S_length (l : Launch) (D : va_G)  (sz : Nat)  : Met l yJ0_length_8abf5 [Cond.code yJ0_length_8abf5 cJ0_length_8abf5 1 (some .int)] ({ frames := 1, cells := 0, slots := 0, locals := 30 }) (z_Pc D [.ref (D.2 51 0)] [] [] sz) (va_Qi (fun (r : Int32) (_ : Unit) => r = 3) (fun _ t => z_W D [] [] (va_A [] sz) t) (va_A [] sz)) 0 0 (va_A [] sz) := by
  refine Met.ofW (cc := cJ0_length_8abf5) (maxL := 1) (ret := (some .int)) (by decide +kernel) rfl ?_
  intro p e s m args below meth c s₁ B hml hv
  obtain ⟨rfl, hsz, hP, hK, hD0, hE, hX0⟩ := hv
  have hx := B.exec
  have hb := B.bytes
  have hr := B.returns
  have hts := z_E.ts (args := [.ref (D.2 51 0)].toArray) hE
  have hown : s.vm.findClass RJ0 = some m.cls := findClass_of_methodNamed B.named
  have hlocks := B.notSynchronized
  subst hsz
  have hD := hD0.self (sz := s.heap.size)
  generalize hAe : va_A [] s.heap.size = A at hD hX0 ⊢
  have hX : z_X D A s s.heap := hX0
  have hA : ∀ q : Nat, s.heap.size ≤ q → A q := fun q h => by rw [← hAe]; exact Or.inr h
  have hS : va_S A s.heap s.heap [] := va_S.rf
  have hP : va_P D vwCl [] s.heap := hP
  have hl := lv_entry ([.ref (D.2 51 0)]) (n := 1) (Nat.le_of_ble_eq_true rfl)
  rw [lg_entry_eq]
  generalize (lg_sl ([.ref (D.2 51 0)]) ++ List.replicate (1 - (lg_sl ([.ref (D.2 51 0)])).length) Slot.unset).toArray = ls at hl ⊢
  have hl : lv_has ls 1 [(0, .ref (D.2 51 0))] := hl
  skip
  refine lv_aload_n hx hb dJ0_length_8abf5_0 rfl (lv_at hl 0 rfl) ?_
  refine vk_getf (v := .ref (D.2 51 1)) hx hb (hX.2.2.2.2.1.1 0 (by decide)).2.2.1 hS hown (hts _ zw_1782) (fun _ h9 => h9) dJ0_length_8abf5_1 ?_
  refine va_tlen (v := 3) hx hb (hX.2.2.2.2.1.1 0 (by decide)).2.2.2 hS (by decide) dJ0_length_8abf5_4 ?_
  refine lv_aload_n hx hb dJ0_length_8abf5_5 rfl (lv_at hl 0 rfl) ?_
  obtain ⟨hb_1, hc_1⟩ := z_call (wc := []) (tc := []) ([.ref (D.2 51 0)]) hP hK hD hS hA hE hX [] rfl rfl [] rfl
  have hF_1 := va_free (wc := []) hD hS hA [] rfl
  refine va_calli (va_runV (As := []) (rest := [.int 3]) ⟨hx, hb, hml, hown, hts⟩ (c_S_coder l D  _ ) (z_cV 0 hE zw_1585 zw_1586 zw_1587 zw_118 zw_1588 rfl rfl rfl (by decide +kernel) ⟨(Nat.le_of_ble_eq_true rfl), (Nat.le_of_ble_eq_true rfl)⟩) ⟨hb_1, vk_recv (i := 0) hX.2.2.2.2.1 (by decide) hS, hc_1⟩ rfl rfl hl.1 rfl (lv_room (Nat.le_of_ble_eq_true rfl)) dJ0_length_8abf5_6 ⟨(Nat.le_of_ble_eq_true rfl), (Nat.le_of_ble_eq_true rfl)⟩) hS (fun q _ h => hF_1 q h) hF_1 (fun r_1 u_1 t_1 H1 locs ht_1 hvm_1 hw_1 hB_1 hz_1 hk_1 hS1 => ?_)
  obtain ⟨hP, hK, hD⟩ := z_back (wc := []) (wr := []) (w1 := []) (tr := []) hP hK hD [] [] rfl rfl rfl (by decide) ht_1 hvm_1 hk_1 hF_1 [] rfl hB_1
  have hS := hS1
  have hP : va_P D vwCl [] H1 := hP
  have hD : va_D A [] := hD
  have hK : va_K D vwCl [] s := hK
  clear hS1
  obtain rfl : r_1 = 0 := hw_1
  refine lv_ishr hx hb dJ0_length_8abf5_9 ?_
  refine lv_topi (fun x_2 ex_2 => ?_)
  obtain rfl : x_2 = 3 := ex_2.trans (by first | rfl | decide | simp)
  exact W.iret (v := 3) hx hb hr (fun t ht hW => ⟨⟨3, (), rfl, rfl, z_end hP hK hD [] rfl rfl [] rfl ht hW.alike⟩, hS.F ht⟩) hS.2.2 dJ0_length_8abf5_10
theorem dJ0_isLatin1_aae02_0 : decode cJ0_isLatin1_aae02 0 = .ok (.getstatic 38, 3) := by decide +kernel
theorem dJ0_isLatin1_aae02_3 : decode cJ0_isLatin1_aae02 3 = .ok (.ifCond .eq 14, 3) := by decide +kernel
theorem dJ0_isLatin1_aae02_6 : decode cJ0_isLatin1_aae02 6 = .ok (.aload_n 0, 1) := by decide +kernel
theorem dJ0_isLatin1_aae02_7 : decode cJ0_isLatin1_aae02 7 = .ok (.getfield 15, 3) := by decide +kernel
theorem dJ0_isLatin1_aae02_10 : decode cJ0_isLatin1_aae02 10 = .ok (.ifCond .ne 7, 3) := by decide +kernel
theorem dJ0_isLatin1_aae02_13 : decode cJ0_isLatin1_aae02 13 = .ok (.iconst 1, 1) := by decide +kernel
theorem dJ0_isLatin1_aae02_14 : decode cJ0_isLatin1_aae02 14 = .ok (.goto 4, 3) := by decide +kernel
theorem dJ0_isLatin1_aae02_18 : decode cJ0_isLatin1_aae02 18 = .ok (.ireturn, 1) := by decide +kernel
set_option maxHeartbeats 4000000 in
set_option maxRecDepth 100000 in
theorem c_S_isLatin1 (l : Launch) (D : va_G)  (sz : Nat)  : Met l yJ0_isLatin1_aae02 [Cond.code yJ0_isLatin1_aae02 cJ0_isLatin1_aae02 1 (some .boolean)] ({ frames := 0, cells := 0, slots := 0, locals := 0 }) (z_Pc D [.ref (D.2 51 0)] [] [] sz) (va_Qi (fun (r : Int32) (_ : Unit) => r = 1) (fun _ t => z_W D [] [] (va_A [] sz) t) (va_A [] sz)) 0 0 (va_A [] sz) := by
  refine Met.ofW (cc := cJ0_isLatin1_aae02) (maxL := 1) (ret := (some .boolean)) (by decide +kernel) rfl ?_
  intro p e s m args below meth c s₁ B hml hv
  obtain ⟨rfl, hsz, hP, hK, hD0, hE, hX0⟩ := hv
  have hx := B.exec
  have hb := B.bytes
  have hr := B.returns
  have hts := z_E.ts (args := [.ref (D.2 51 0)].toArray) hE
  have hown : s.vm.findClass RJ0 = some m.cls := findClass_of_methodNamed B.named
  have hlocks := B.notSynchronized
  subst hsz
  have hD := hD0.self (sz := s.heap.size)
  generalize hAe : va_A [] s.heap.size = A at hD hX0 ⊢
  have hX : z_X D A s s.heap := hX0
  have hA : ∀ q : Nat, s.heap.size ≤ q → A q := fun q h => by rw [← hAe]; exact Or.inr h
  have hS : va_S A s.heap s.heap [] := va_S.rf
  have hP : va_P D vwCl [] s.heap := hP
  have hl := lv_entry ([.ref (D.2 51 0)]) (n := 1) (Nat.le_of_ble_eq_true rfl)
  rw [lg_entry_eq]
  generalize (lg_sl ([.ref (D.2 51 0)]) ++ List.replicate (1 - (lg_sl ([.ref (D.2 51 0)])).length) Slot.unset).toArray = ls at hl ⊢
  have hl : lv_has ls 1 [(0, .ref (D.2 51 0))] := hl
  skip
  refine va_gets (v := .int 1) hx hb hX.2.2.2.2.2 hS hown (hts _ zw_1579) (fun _ h9 => h9) dJ0_isLatin1_aae02_0 ?_
  refine lv_if_eq (tgt := 17) hx hb dJ0_isLatin1_aae02_3 (by decide) (fun c_1 => absurd c_1 (by decide)) (fun c_1 => ?_)
  refine lv_aload_n hx hb dJ0_isLatin1_aae02_6 rfl (lv_at hl 0 rfl) ?_
  refine vk_getf (v := .int 0) hx hb (hX.2.2.2.2.1.1 0 (by decide)).2.1 hS hown (hts _ zw_1781) (fun _ h9 => h9) dJ0_isLatin1_aae02_7 ?_
  refine lv_if_ne (tgt := 17) hx hb dJ0_isLatin1_aae02_10 (by decide) (fun c_2 => absurd (by decide) c_2) (fun c_2 => ?_)
  refine lv_iconst (v := 1) hx hb dJ0_isLatin1_aae02_13 (by decide) ?_
  refine lv_goto (tgt := 18) hx hb dJ0_isLatin1_aae02_14 (by decide) ?_
  exact W.zret (v := 1) hx hb hr (by first | rfl | decide) (fun t ht hW => ⟨⟨1, (), rfl, rfl, z_end hP hK hD [] rfl rfl [] rfl ht hW.alike⟩, hS.F ht⟩) hS.2.2 dJ0_isLatin1_aae02_18
theorem dJ1_canEncode_9a6ad_0 : decode cJ1_canEncode_9a6ad 0 = .ok (.iload_n 0, 1) := by decide +kernel
theorem dJ1_canEncode_9a6ad_1 : decode cJ1_canEncode_9a6ad 1 = .ok (.ifCond .lt 14, 3) := by decide +kernel
theorem dJ1_canEncode_9a6ad_15 : decode cJ1_canEncode_9a6ad 15 = .ok (.iconst 0, 1) := by decide +kernel
theorem dJ1_canEncode_9a6ad_16 : decode cJ1_canEncode_9a6ad 16 = .ok (.ireturn, 1) := by decide +kernel
theorem dJ1_canEncode_9a6ad_4 : decode cJ1_canEncode_9a6ad 4 = .ok (.iload_n 0, 1) := by decide +kernel
theorem dJ1_canEncode_9a6ad_5 : decode cJ1_canEncode_9a6ad 5 = .ok (.sipush 255, 3) := by decide +kernel
theorem dJ1_canEncode_9a6ad_8 : decode cJ1_canEncode_9a6ad 8 = .ok (.if_icmp .gt 7, 3) := by decide +kernel
theorem dJ1_canEncode_9a6ad_11 : decode cJ1_canEncode_9a6ad 11 = .ok (.iconst 1, 1) := by decide +kernel
theorem dJ1_canEncode_9a6ad_12 : decode cJ1_canEncode_9a6ad 12 = .ok (.goto 4, 3) := by decide +kernel
set_option maxHeartbeats 4000000 in
set_option maxRecDepth 100000 in
theorem c_S_canEncode (l : Launch) (D : va_G) (a0 : Int32) (sz : Nat)  : Met l yJ1_canEncode_9a6ad [Cond.code yJ1_canEncode_9a6ad cJ1_canEncode_9a6ad 1 (some .boolean)] ({ frames := 0, cells := 0, slots := 0, locals := 0 }) (z_Pc D [.int a0] [] [] sz) (va_Qi (fun (r : Int32) (_ : Unit) => (r = 1 ∧ ¬ a0 < 0 ∧ ¬ 255 < a0) ∨ (r = 0 ∧ ¬ (¬ a0 < 0 ∧ ¬ 255 < a0))) (fun _ t => z_W D [] [] (va_A [] sz) t) (va_A [] sz)) 0 0 (va_A [] sz) := by
  refine Met.ofW (cc := cJ1_canEncode_9a6ad) (maxL := 1) (ret := (some .boolean)) (by decide +kernel) rfl ?_
  intro p e s m args below meth c s₁ B hml hv
  obtain ⟨rfl, hsz, hP, hK, hD0, hE, hX0⟩ := hv
  have hx := B.exec
  have hb := B.bytes
  have hr := B.returns
  have hts := z_E.ts (args := [.int a0].toArray) hE
  have hown : s.vm.findClass RJ1 = some m.cls := findClass_of_methodNamed B.named
  have hlocks := B.notSynchronized
  subst hsz
  have hD := hD0.self (sz := s.heap.size)
  generalize hAe : va_A [] s.heap.size = A at hD hX0 ⊢
  have hX : z_X D A s s.heap := hX0
  have hA : ∀ q : Nat, s.heap.size ≤ q → A q := fun q h => by rw [← hAe]; exact Or.inr h
  have hS : va_S A s.heap s.heap [] := va_S.rf
  have hP : va_P D vwCl [] s.heap := hP
  have hl := lv_entry ([.int a0]) (n := 1) (Nat.le_of_ble_eq_true rfl)
  rw [lg_entry_eq]
  generalize (lg_sl ([.int a0]) ++ List.replicate (1 - (lg_sl ([.int a0])).length) Slot.unset).toArray = ls at hl ⊢
  have hl : lv_has ls 1 [(0, .int a0)] := hl
  skip
  refine lv_iload_n hx hb dJ1_canEncode_9a6ad_0 rfl (lv_at hl 0 rfl) ?_
  refine lv_if_lt (tgt := 15) hx hb dJ1_canEncode_9a6ad_1 (by decide) (fun c_1 => ?_) (fun c_1 => ?_)
  · refine lv_iconst (v := 0) hx hb dJ1_canEncode_9a6ad_15 (by decide) ?_
    exact W.zret (v := 0) hx hb hr (by first | rfl | decide) (fun t ht hW => ⟨⟨0, (), rfl, Or.inr ⟨rfl, fun h => h.1 c_1⟩, z_end hP hK hD [] rfl rfl [] rfl ht hW.alike⟩, hS.F ht⟩) hS.2.2 dJ1_canEncode_9a6ad_16
  · refine lv_iload_n hx hb dJ1_canEncode_9a6ad_4 rfl (lv_at hl 0 rfl) ?_
    refine lv_sipush (v := 255) hx hb dJ1_canEncode_9a6ad_5 (by decide) ?_
    refine lv_icmp_gt (tgt := 15) hx hb dJ1_canEncode_9a6ad_8 (by decide) (fun c_2 => ?_) (fun c_2 => ?_)
    · refine lv_iconst (v := 0) hx hb dJ1_canEncode_9a6ad_15 (by decide) ?_
      exact W.zret (v := 0) hx hb hr (by first | rfl | decide) (fun t ht hW => ⟨⟨0, (), rfl, Or.inr ⟨rfl, fun h => h.2 c_2⟩, z_end hP hK hD [] rfl rfl [] rfl ht hW.alike⟩, hS.F ht⟩) hS.2.2 dJ1_canEncode_9a6ad_16
    · refine lv_iconst (v := 1) hx hb dJ1_canEncode_9a6ad_11 (by decide) ?_
      refine lv_goto (tgt := 16) hx hb dJ1_canEncode_9a6ad_12 (by decide) ?_
      exact W.zret (v := 1) hx hb hr (by first | rfl | decide) (fun t ht hW => ⟨⟨1, (), rfl, Or.inl ⟨rfl, c_1, c_2⟩, z_end hP hK hD [] rfl rfl [] rfl ht hW.alike⟩, hS.F ht⟩) hS.2.2 dJ1_canEncode_9a6ad_16
theorem z_b8 : ∀ k : Nat, k < 256 → ∀ v ∈ ([100, 110, 104] : List Int32), ((nI k).toInt8.toInt32 = v ↔ nI k = v) := by decide +kernel
theorem z_lo {a : Int32} (h1 : ¬ a < 0) (h2 : ¬ 255 < a) : ∃ k : Nat, k < 256 ∧ a = nI k := by
  have e1 := Int32.not_lt.mp h1
  have e2 := Int32.not_lt.mp h2
  rw [Int32.le_iff_toInt_le] at e1 e2
  have z0 : (0 : Int32).toInt = 0 := by decide
  have z1 : (255 : Int32).toInt = 255 := by decide
  rw [z0] at e1
  rw [z1] at e2
  refine ⟨a.toInt.toNat, by omega, ?_⟩
  apply Int32.toInt_inj.mp
  rw [nI_toInt (by omega)]
  omega
theorem z_ch {a v : Int32} (h1 : ¬ a < 0) (h2 : ¬ 255 < a) (hv : v ∈ ([100, 110, 104] : List Int32)) : (a.toInt8.toInt32 = v ↔ a = v) := by
  obtain ⟨k, hk, rfl⟩ := z_lo h1 h2
  exact z_b8 k hk v hv
theorem dJ1_indexOfChar_4cfef_0 : decode cJ1_indexOfChar_4cfef 0 = .ok (.iload_n 1, 1) := by decide +kernel
theorem dJ1_indexOfChar_4cfef_1 : decode cJ1_indexOfChar_4cfef 1 = .ok (.i2b, 1) := by decide +kernel
theorem dJ1_indexOfChar_4cfef_2 : decode cJ1_indexOfChar_4cfef 2 = .ok (.istore 4, 2) := by decide +kernel
theorem dJ1_indexOfChar_4cfef_4 : decode cJ1_indexOfChar_4cfef 4 = .ok (.iload_n 2, 1) := by decide +kernel
theorem dJ1_indexOfChar_4cfef_5 : decode cJ1_indexOfChar_4cfef 5 = .ok (.istore 5, 2) := by decide +kernel
theorem dJ1_indexOfChar_4cfef_7 : decode cJ1_indexOfChar_4cfef 7 = .ok (.iload 5, 2) := by decide +kernel
theorem dJ1_indexOfChar_4cfef_9 : decode cJ1_indexOfChar_4cfef 9 = .ok (.iload_n 3, 1) := by decide +kernel
theorem dJ1_indexOfChar_4cfef_10 : decode cJ1_indexOfChar_4cfef 10 = .ok (.if_icmp .ge 21, 3) := by decide +kernel
theorem dJ1_indexOfChar_4cfef_13 : decode cJ1_indexOfChar_4cfef 13 = .ok (.aload_n 0, 1) := by decide +kernel
theorem dJ1_indexOfChar_4cfef_14 : decode cJ1_indexOfChar_4cfef 14 = .ok (.iload 5, 2) := by decide +kernel
theorem dJ1_indexOfChar_4cfef_16 : decode cJ1_indexOfChar_4cfef 16 = .ok (.baload, 1) := by decide +kernel
theorem dJ1_indexOfChar_4cfef_17 : decode cJ1_indexOfChar_4cfef 17 = .ok (.iload 4, 2) := by decide +kernel
theorem dJ1_indexOfChar_4cfef_19 : decode cJ1_indexOfChar_4cfef 19 = .ok (.if_icmp .ne 6, 3) := by decide +kernel
theorem dJ1_indexOfChar_4cfef_22 : decode cJ1_indexOfChar_4cfef 22 = .ok (.iload 5, 2) := by decide +kernel
theorem dJ1_indexOfChar_4cfef_24 : decode cJ1_indexOfChar_4cfef 24 = .ok (.ireturn, 1) := by decide +kernel
theorem dJ1_indexOfChar_4cfef_25 : decode cJ1_indexOfChar_4cfef 25 = .ok (.iinc 5 1, 3) := by decide +kernel
theorem dJ1_indexOfChar_4cfef_28 : decode cJ1_indexOfChar_4cfef 28 = .ok (.goto (-21), 3) := by decide +kernel
theorem dJ1_indexOfChar_4cfef_31 : decode cJ1_indexOfChar_4cfef 31 = .ok (.iconst (-1), 1) := by decide +kernel
theorem dJ1_indexOfChar_4cfef_32 : decode cJ1_indexOfChar_4cfef 32 = .ok (.ireturn, 1) := by decide +kernel
set_option maxHeartbeats 4000000 in
set_option maxRecDepth 100000 in
theorem c_S_indexOfChar (l : Launch) (D : va_G) (a0 : Int32) (sz : Nat) (h1 : ¬ a0 < 0) (h2 : ¬ 255 < a0) : Met l yJ1_indexOfChar_4cfef [Cond.code yJ1_indexOfChar_4cfef cJ1_indexOfChar_4cfef 6 (some .int)] ({ frames := 0, cells := 0, slots := 0, locals := 0 }) (z_Pc D [.ref (D.2 51 1), .int a0, .int 0, .int 3] [] [] sz) (va_Qi (fun (r : Int32) (_ : Unit) => ((a0 = 100 ∨ a0 = 110 ∨ a0 = 104) ∧ ¬ r < 0) ∨ (¬ (a0 = 100 ∨ a0 = 110 ∨ a0 = 104) ∧ r < 0)) (fun _ t => z_W D [] [] (va_A [] sz) t) (va_A [] sz)) 0 0 (va_A [] sz) := by
  refine Met.ofW (cc := cJ1_indexOfChar_4cfef) (maxL := 6) (ret := (some .int)) (by decide +kernel) rfl ?_
  intro p e s m args below meth c s₁ B hml hv
  obtain ⟨rfl, hsz, hP, hK, hD0, hE, hX0⟩ := hv
  have hx := B.exec
  have hb := B.bytes
  have hr := B.returns
  have hts := z_E.ts (args := [.ref (D.2 51 1), .int a0, .int 0, .int 3].toArray) hE
  have hown : s.vm.findClass RJ1 = some m.cls := findClass_of_methodNamed B.named
  have hlocks := B.notSynchronized
  subst hsz
  have hD := hD0.self (sz := s.heap.size)
  generalize hAe : va_A [] s.heap.size = A at hD hX0 ⊢
  have hX : z_X D A s s.heap := hX0
  have hA : ∀ q : Nat, s.heap.size ≤ q → A q := fun q h => by rw [← hAe]; exact Or.inr h
  have hS : va_S A s.heap s.heap [] := va_S.rf
  have hP : va_P D vwCl [] s.heap := hP
  have hl := lv_entry ([.ref (D.2 51 1), .int a0, .int 0, .int 3]) (n := 6) (Nat.le_of_ble_eq_true rfl)
  rw [lg_entry_eq]
  generalize (lg_sl ([.ref (D.2 51 1), .int a0, .int 0, .int 3]) ++ List.replicate (6 - (lg_sl ([.ref (D.2 51 1), .int a0, .int 0, .int 3])).length) Slot.unset).toArray = ls at hl ⊢
  have hl : lv_has ls 6 [(0, .ref (D.2 51 1)), (1, .int a0), (2, .int 0), (3, .int 3)] := hl
  skip
  refine lv_iload_n hx hb dJ1_indexOfChar_4cfef_0 rfl (lv_at hl 1 rfl) ?_
  refine lv_i2b hx hb dJ1_indexOfChar_4cfef_1 rfl ?_
  refine lv_istore (lv' := [(4, .int a0.toInt8.toInt32), (0, .ref (D.2 51 1)), (1, .int a0), (2, .int 0), (3, .int 3)]) hx hb dJ1_indexOfChar_4cfef_2 hl (by decide) rfl (fun ls hl => ?_)
  refine lv_iload_n hx hb dJ1_indexOfChar_4cfef_4 rfl (lv_at hl 3 rfl) ?_
  refine lv_istore (lv' := [(5, .int 0), (4, .int a0.toInt8.toInt32), (0, .ref (D.2 51 1)), (1, .int a0), (2, .int 0), (3, .int 3)]) hx hb dJ1_indexOfChar_4cfef_5 hl (by decide) rfl (fun ls hl => ?_)
  refine lv_iload hx hb dJ1_indexOfChar_4cfef_7 (lv_at hl 0 rfl) ?_
  refine lv_iload_n hx hb dJ1_indexOfChar_4cfef_9 rfl (lv_at hl 5 rfl) ?_
  refine lv_icmp_ge (tgt := 31) hx hb dJ1_indexOfChar_4cfef_10 (by decide) (fun c_1 => absurd c_1 (by decide)) (fun c_1 => ?_)
  refine lv_aload_n hx hb dJ1_indexOfChar_4cfef_13 rfl (lv_at hl 2 rfl) ?_
  refine lv_iload hx hb dJ1_indexOfChar_4cfef_14 (lv_at hl 0 rfl) ?_
  refine va_tb (i := 0) (v := .int 100) hx hb (hX.2.2.2.2.1.1 0 (by decide)).2.2.2 hS (by unfold vp_in; decide) rfl dJ1_indexOfChar_4cfef_16 ?_
  refine lv_iload hx hb dJ1_indexOfChar_4cfef_17 (lv_at hl 1 rfl) ?_
  refine lv_icmp_ne (tgt := 25) hx hb dJ1_indexOfChar_4cfef_19 (by decide) (fun c_2 => ?_) (fun c_2 => ?_)
  · refine lv_iinc (v := 1) (lv' := [(5, .int 1), (4, .int a0.toInt8.toInt32), (0, .ref (D.2 51 1)), (1, .int a0), (2, .int 0), (3, .int 3)]) hx hb dJ1_indexOfChar_4cfef_25 hl (k := 0) rfl (by decide) (by decide) rfl (fun ls hl => ?_)
    refine lv_goto (tgt := 7) hx hb dJ1_indexOfChar_4cfef_28 (by decide) ?_
    refine lv_iload hx hb dJ1_indexOfChar_4cfef_7 (lv_at hl 0 rfl) ?_
    refine lv_iload_n hx hb dJ1_indexOfChar_4cfef_9 rfl (lv_at hl 5 rfl) ?_
    refine lv_icmp_ge (tgt := 31) hx hb dJ1_indexOfChar_4cfef_10 (by decide) (fun c_3 => absurd c_3 (by decide)) (fun c_3 => ?_)
    refine lv_aload_n hx hb dJ1_indexOfChar_4cfef_13 rfl (lv_at hl 2 rfl) ?_
    refine lv_iload hx hb dJ1_indexOfChar_4cfef_14 (lv_at hl 0 rfl) ?_
    refine va_tb (i := 1) (v := .int 110) hx hb (hX.2.2.2.2.1.1 0 (by decide)).2.2.2 hS (by unfold vp_in; decide) rfl dJ1_indexOfChar_4cfef_16 ?_
    refine lv_iload hx hb dJ1_indexOfChar_4cfef_17 (lv_at hl 1 rfl) ?_
    refine lv_icmp_ne (tgt := 25) hx hb dJ1_indexOfChar_4cfef_19 (by decide) (fun c_4 => ?_) (fun c_4 => ?_)
    · refine lv_iinc (v := 2) (lv' := [(5, .int 2), (4, .int a0.toInt8.toInt32), (0, .ref (D.2 51 1)), (1, .int a0), (2, .int 0), (3, .int 3)]) hx hb dJ1_indexOfChar_4cfef_25 hl (k := 0) rfl (by decide) (by decide) rfl (fun ls hl => ?_)
      refine lv_goto (tgt := 7) hx hb dJ1_indexOfChar_4cfef_28 (by decide) ?_
      refine lv_iload hx hb dJ1_indexOfChar_4cfef_7 (lv_at hl 0 rfl) ?_
      refine lv_iload_n hx hb dJ1_indexOfChar_4cfef_9 rfl (lv_at hl 5 rfl) ?_
      refine lv_icmp_ge (tgt := 31) hx hb dJ1_indexOfChar_4cfef_10 (by decide) (fun c_5 => absurd c_5 (by decide)) (fun c_5 => ?_)
      refine lv_aload_n hx hb dJ1_indexOfChar_4cfef_13 rfl (lv_at hl 2 rfl) ?_
      refine lv_iload hx hb dJ1_indexOfChar_4cfef_14 (lv_at hl 0 rfl) ?_
      refine va_tb (i := 2) (v := .int 104) hx hb (hX.2.2.2.2.1.1 0 (by decide)).2.2.2 hS (by unfold vp_in; decide) rfl dJ1_indexOfChar_4cfef_16 ?_
      refine lv_iload hx hb dJ1_indexOfChar_4cfef_17 (lv_at hl 1 rfl) ?_
      refine lv_icmp_ne (tgt := 25) hx hb dJ1_indexOfChar_4cfef_19 (by decide) (fun c_6 => ?_) (fun c_6 => ?_)
      · refine lv_iinc (v := 3) (lv' := [(5, .int 3), (4, .int a0.toInt8.toInt32), (0, .ref (D.2 51 1)), (1, .int a0), (2, .int 0), (3, .int 3)]) hx hb dJ1_indexOfChar_4cfef_25 hl (k := 0) rfl (by decide) (by decide) rfl (fun ls hl => ?_)
        refine lv_goto (tgt := 7) hx hb dJ1_indexOfChar_4cfef_28 (by decide) ?_
        refine lv_iload hx hb dJ1_indexOfChar_4cfef_7 (lv_at hl 0 rfl) ?_
        refine lv_iload_n hx hb dJ1_indexOfChar_4cfef_9 rfl (lv_at hl 5 rfl) ?_
        refine lv_icmp_ge (tgt := 31) hx hb dJ1_indexOfChar_4cfef_10 (by decide) (fun c_7 => ?_) (fun c_7 => absurd (by decide) c_7)
        refine lv_iconst (v := -1) hx hb dJ1_indexOfChar_4cfef_31 (by decide) ?_
        exact W.iret (v := (-1)) hx hb hr (fun t ht hW => ⟨⟨(-1), (), rfl, (Or.inr ⟨fun h => h.elim (fun q => c_2 ((z_ch h1 h2 (by decide)).mpr q).symm) (fun h => h.elim (fun q => c_4 ((z_ch h1 h2 (by decide)).mpr q).symm) (fun q => c_6 ((z_ch h1 h2 (by decide)).mpr q).symm)), by decide⟩), z_end hP hK hD [] rfl rfl [] rfl ht hW.alike⟩, hS.F ht⟩) hS.2.2 dJ1_indexOfChar_4cfef_32
      · refine lv_iload hx hb dJ1_indexOfChar_4cfef_22 (lv_at hl 0 rfl) ?_
        exact W.iret (v := 2) hx hb hr (fun t ht hW => ⟨⟨2, (), rfl, (Or.inl ⟨Or.inr (Or.inr ((z_ch h1 h2 (by decide)).mp (Eq.symm c_6))), by decide⟩), z_end hP hK hD [] rfl rfl [] rfl ht hW.alike⟩, hS.F ht⟩) hS.2.2 dJ1_indexOfChar_4cfef_24
    · refine lv_iload hx hb dJ1_indexOfChar_4cfef_22 (lv_at hl 0 rfl) ?_
      exact W.iret (v := 1) hx hb hr (fun t ht hW => ⟨⟨1, (), rfl, (Or.inl ⟨Or.inr (Or.inl ((z_ch h1 h2 (by decide)).mp (Eq.symm c_4))), by decide⟩), z_end hP hK hD [] rfl rfl [] rfl ht hW.alike⟩, hS.F ht⟩) hS.2.2 dJ1_indexOfChar_4cfef_24
  · refine lv_iload hx hb dJ1_indexOfChar_4cfef_22 (lv_at hl 0 rfl) ?_
    exact W.iret (v := 0) hx hb hr (fun t ht hW => ⟨⟨0, (), rfl, (Or.inl ⟨Or.inl ((z_ch h1 h2 (by decide)).mp (Eq.symm c_2)), by decide⟩), z_end hP hK hD [] rfl rfl [] rfl ht hW.alike⟩, hS.F ht⟩) hS.2.2 dJ1_indexOfChar_4cfef_24
theorem z_far {a : Int32} (h : ¬ (¬ a < 0 ∧ ¬ 255 < a)) : ¬ (a = 100 ∨ a = 110 ∨ a = 104) := by
  rintro (rfl | rfl | rfl) <;> exact h (by decide)
theorem dJ1_indexOf_4cfef_0 : decode cJ1_indexOf_4cfef 0 = .ok (.iload_n 1, 1) := by decide +kernel
theorem dJ1_indexOf_4cfef_1 : decode cJ1_indexOf_4cfef 1 = .ok (.invokestatic 88, 3) := by decide +kernel
theorem zw_1592 : Cond.methodLink RJ1 88 yJ1_canEncode_9a6ad ∈ z_Ts := z_m 1592 (by decide +kernel) (by decide +kernel)
theorem zw_119 : Cond.initialized RJ1 ∈ z_Ts := z_m 119 (by decide +kernel) (by decide +kernel)
theorem zw_1594 : Cond.code yJ1_canEncode_9a6ad cJ1_canEncode_9a6ad 1 (some .boolean) ∈ z_Ts := z_m 1594 (by decide +kernel) (by decide +kernel)
theorem zw_1593 : Cond.static yJ1_canEncode_9a6ad ∈ z_Ts := z_m 1593 (by decide +kernel) (by decide +kernel)
theorem dJ1_indexOf_4cfef_4 : decode cJ1_indexOf_4cfef 4 = .ok (.ifCond .ne 5, 3) := by decide +kernel
theorem dJ1_indexOf_4cfef_9 : decode cJ1_indexOf_4cfef 9 = .ok (.iload_n 2, 1) := by decide +kernel
theorem dJ1_indexOf_4cfef_10 : decode cJ1_indexOf_4cfef 10 = .ok (.iconst 0, 1) := by decide +kernel
theorem dJ1_indexOf_4cfef_11 : decode cJ1_indexOf_4cfef 11 = .ok (.invokestatic 92, 3) := by decide +kernel
theorem zw_1595 : Cond.methodLink RJ1 92 yJ9_max_7cf53 ∈ z_Ts := z_m 1595 (by decide +kernel) (by decide +kernel)
theorem dJ1_indexOf_4cfef_14 : decode cJ1_indexOf_4cfef 14 = .ok (.istore_n 2, 1) := by decide +kernel
theorem dJ1_indexOf_4cfef_15 : decode cJ1_indexOf_4cfef 15 = .ok (.iload_n 3, 1) := by decide +kernel
theorem dJ1_indexOf_4cfef_16 : decode cJ1_indexOf_4cfef 16 = .ok (.aload_n 0, 1) := by decide +kernel
theorem dJ1_indexOf_4cfef_17 : decode cJ1_indexOf_4cfef 17 = .ok (.arraylength, 1) := by decide +kernel
theorem dJ1_indexOf_4cfef_18 : decode cJ1_indexOf_4cfef 18 = .ok (.invokestatic 38, 3) := by decide +kernel
theorem zw_720 : Cond.code Lib.Math.min.name Lib.Math.min.code 2 (some .int) ∈ z_Ts := z_m 720 (by decide +kernel) (by decide +kernel)
theorem zw_1596 : Cond.methodLink RJ1 38 yJ9_min_7cf53 ∈ z_Ts := z_m 1596 (by decide +kernel) (by decide +kernel)
theorem zw_719 : Cond.static yJ9_min_7cf53 ∈ z_Ts := z_m 719 (by decide +kernel) (by decide +kernel)
theorem dJ1_indexOf_4cfef_21 : decode cJ1_indexOf_4cfef 21 = .ok (.istore_n 3, 1) := by decide +kernel
theorem dJ1_indexOf_4cfef_22 : decode cJ1_indexOf_4cfef 22 = .ok (.iload_n 2, 1) := by decide +kernel
theorem dJ1_indexOf_4cfef_23 : decode cJ1_indexOf_4cfef 23 = .ok (.iload_n 3, 1) := by decide +kernel
theorem dJ1_indexOf_4cfef_24 : decode cJ1_indexOf_4cfef 24 = .ok (.if_icmp .lt 5, 3) := by decide +kernel
theorem dJ1_indexOf_4cfef_29 : decode cJ1_indexOf_4cfef 29 = .ok (.aload_n 0, 1) := by decide +kernel
theorem dJ1_indexOf_4cfef_30 : decode cJ1_indexOf_4cfef 30 = .ok (.iload_n 1, 1) := by decide +kernel
theorem dJ1_indexOf_4cfef_31 : decode cJ1_indexOf_4cfef 31 = .ok (.iload_n 2, 1) := by decide +kernel
theorem dJ1_indexOf_4cfef_32 : decode cJ1_indexOf_4cfef 32 = .ok (.iload_n 3, 1) := by decide +kernel
theorem dJ1_indexOf_4cfef_33 : decode cJ1_indexOf_4cfef 33 = .ok (.invokestatic 95, 3) := by decide +kernel
theorem zw_1597 : Cond.methodLink RJ1 95 yJ1_indexOfChar_4cfef ∈ z_Ts := z_m 1597 (by decide +kernel) (by decide +kernel)
theorem zw_1599 : Cond.code yJ1_indexOfChar_4cfef cJ1_indexOfChar_4cfef 6 (some .int) ∈ z_Ts := z_m 1599 (by decide +kernel) (by decide +kernel)
theorem zw_1598 : Cond.static yJ1_indexOfChar_4cfef ∈ z_Ts := z_m 1598 (by decide +kernel) (by decide +kernel)
theorem dJ1_indexOf_4cfef_36 : decode cJ1_indexOf_4cfef 36 = .ok (.ireturn, 1) := by decide +kernel
theorem dJ1_indexOf_4cfef_7 : decode cJ1_indexOf_4cfef 7 = .ok (.iconst (-1), 1) := by decide +kernel
theorem dJ1_indexOf_4cfef_8 : decode cJ1_indexOf_4cfef 8 = .ok (.ireturn, 1) := by decide +kernel
set_option maxHeartbeats 4000000 in
set_option maxRecDepth 100000 in
theorem c_S_indexOfL (l : Launch) (D : va_G) (a0 : Int32) (sz : Nat)  : Met l yJ1_indexOf_4cfef [Cond.code yJ1_indexOf_4cfef cJ1_indexOf_4cfef 4 (some .int)] ({ frames := 1, cells := 0, slots := 0, locals := 60 }) (z_Pc D [.ref (D.2 51 1), .int a0, .int 0, .int 3] [] [] sz) (va_Qi (fun (r : Int32) (_ : Unit) => ((a0 = 100 ∨ a0 = 110 ∨ a0 = 104) ∧ ¬ r < 0) ∨ (¬ (a0 = 100 ∨ a0 = 110 ∨ a0 = 104) ∧ r < 0)) (fun _ t => z_W D [] [] (va_A [] sz) t) (va_A [] sz)) 0 0 (va_A [] sz) := by
  refine Met.ofW (cc := cJ1_indexOf_4cfef) (maxL := 4) (ret := (some .int)) (by decide +kernel) rfl ?_
  intro p e s m args below meth c s₁ B hml hv
  obtain ⟨rfl, hsz, hP, hK, hD0, hE, hX0⟩ := hv
  have hx := B.exec
  have hb := B.bytes
  have hr := B.returns
  have hts := z_E.ts (args := [.ref (D.2 51 1), .int a0, .int 0, .int 3].toArray) hE
  have hown : s.vm.findClass RJ1 = some m.cls := findClass_of_methodNamed B.named
  have hlocks := B.notSynchronized
  subst hsz
  have hD := hD0.self (sz := s.heap.size)
  generalize hAe : va_A [] s.heap.size = A at hD hX0 ⊢
  have hX : z_X D A s s.heap := hX0
  have hA : ∀ q : Nat, s.heap.size ≤ q → A q := fun q h => by rw [← hAe]; exact Or.inr h
  have hS : va_S A s.heap s.heap [] := va_S.rf
  have hP : va_P D vwCl [] s.heap := hP
  have hl := lv_entry ([.ref (D.2 51 1), .int a0, .int 0, .int 3]) (n := 4) (Nat.le_of_ble_eq_true rfl)
  rw [lg_entry_eq]
  generalize (lg_sl ([.ref (D.2 51 1), .int a0, .int 0, .int 3]) ++ List.replicate (4 - (lg_sl ([.ref (D.2 51 1), .int a0, .int 0, .int 3])).length) Slot.unset).toArray = ls at hl ⊢
  have hl : lv_has ls 4 [(0, .ref (D.2 51 1)), (1, .int a0), (2, .int 0), (3, .int 3)] := hl
  skip
  refine lv_iload_n hx hb dJ1_indexOf_4cfef_0 rfl (lv_at hl 1 rfl) ?_
  obtain ⟨hb_1, hc_1⟩ := z_call (wc := []) (tc := []) ([.int a0]) hP hK hD hS hA hE hX [] rfl rfl [] rfl
  have hF_1 := va_free (wc := []) hD hS hA [] rfl
  refine va_calli (va_runS (As := [.int a0]) (rest := []) ⟨hx, hb, hml, hown, hts⟩ (c_S_canEncode l D a0 _ ) (⟨z_cB 1 hE zw_1592 zw_119 zw_1594 rfl rfl rfl (by decide +kernel) ⟨(Nat.le_of_ble_eq_true rfl), (Nat.le_of_ble_eq_true rfl)⟩, hE.ts _ zw_1593⟩) ⟨hb_1, hc_1⟩ rfl rfl hl.1 rfl (lv_room (Nat.le_of_ble_eq_true rfl)) dJ1_indexOf_4cfef_1 ⟨(Nat.le_of_ble_eq_true rfl), (Nat.le_of_ble_eq_true rfl)⟩) hS (fun q _ h => hF_1 q h) hF_1 (fun r_1 u_1 t_1 H1 locs ht_1 hvm_1 hw_1 hB_1 hz_1 hk_1 hS1 => ?_)
  obtain ⟨hP, hK, hD⟩ := z_back (wc := []) (wr := []) (w1 := []) (tr := []) hP hK hD [] [] rfl rfl rfl (by decide) ht_1 hvm_1 hk_1 hF_1 [] rfl hB_1
  have hS := hS1
  have hP : va_P D vwCl [] H1 := hP
  have hD : va_D A [] := hD
  have hK : va_K D vwCl [] s := hK
  clear hS1
  rcases hw_1 with ⟨rfl, g1, g2⟩ | ⟨rfl, g1⟩
  · refine lv_if_ne (tgt := 9) hx hb dJ1_indexOf_4cfef_4 (by decide) (fun c_2 => ?_) (fun c_2 => absurd c_2 (by decide))
    refine lv_iload_n hx hb dJ1_indexOf_4cfef_9 rfl (lv_at hl 2 rfl) ?_
    refine lv_iconst (v := 0) hx hb dJ1_indexOf_4cfef_10 (by decide) ?_
    refine va_mmax hx hb (hml.trans hl.1.symm) hown (hts _ zw_1595) (hts _ zw_774) (hts _ zw_108) (hts _ zw_775) (Nat.le_of_ble_eq_true rfl) (Nat.le_of_ble_eq_true rfl) (Nat.le_of_ble_eq_true rfl) (Nat.le_of_ble_eq_true rfl) dJ1_indexOf_4cfef_11 ?_
    refine lv_topi (fun x_3 ex_3 => ?_)
    obtain rfl : x_3 = 0 := ex_3.trans (by first | rfl | decide | simp)
    refine lv_istore_n (lv' := [(2, .int 0), (0, .ref (D.2 51 1)), (1, .int a0), (3, .int 3)]) hx hb dJ1_indexOf_4cfef_14 rfl hl (by decide) rfl (fun ls hl => ?_)
    refine lv_iload_n hx hb dJ1_indexOf_4cfef_15 rfl (lv_at hl 3 rfl) ?_
    refine lv_aload_n hx hb dJ1_indexOf_4cfef_16 rfl (lv_at hl 1 rfl) ?_
    refine va_tlen (v := 3) hx hb (hX.2.2.2.2.1.1 0 (by decide)).2.2.2 hS (by decide) dJ1_indexOf_4cfef_17 ?_
    refine va_mmin hx hb (hml.trans hl.1.symm) hown (hts _ zw_1596) (hts _ zw_719) (hts _ zw_108) (hts _ zw_720) (Nat.le_of_ble_eq_true rfl) (Nat.le_of_ble_eq_true rfl) (Nat.le_of_ble_eq_true rfl) (Nat.le_of_ble_eq_true rfl) dJ1_indexOf_4cfef_18 ?_
    refine lv_topi (fun x_4 ex_4 => ?_)
    obtain rfl : x_4 = 3 := ex_4.trans (by first | rfl | decide | simp)
    refine lv_istore_n (lv' := [(3, .int 3), (2, .int 0), (0, .ref (D.2 51 1)), (1, .int a0)]) hx hb dJ1_indexOf_4cfef_21 rfl hl (by decide) rfl (fun ls hl => ?_)
    refine lv_iload_n hx hb dJ1_indexOf_4cfef_22 rfl (lv_at hl 1 rfl) ?_
    refine lv_iload_n hx hb dJ1_indexOf_4cfef_23 rfl (lv_at hl 0 rfl) ?_
    refine lv_icmp_lt (tgt := 29) hx hb dJ1_indexOf_4cfef_24 (by decide) (fun c_5 => ?_) (fun c_5 => absurd (by decide) c_5)
    refine lv_aload_n hx hb dJ1_indexOf_4cfef_29 rfl (lv_at hl 2 rfl) ?_
    refine lv_iload_n hx hb dJ1_indexOf_4cfef_30 rfl (lv_at hl 3 rfl) ?_
    refine lv_iload_n hx hb dJ1_indexOf_4cfef_31 rfl (lv_at hl 1 rfl) ?_
    refine lv_iload_n hx hb dJ1_indexOf_4cfef_32 rfl (lv_at hl 0 rfl) ?_
    obtain ⟨hb_6, hc_6⟩ := z_call (wc := []) (tc := []) ([.ref (D.2 51 1), .int a0, .int 0, .int 3]) hP hK hD hS hA hE hX [] rfl rfl [] rfl
    have hF_6 := va_free (wc := []) hD hS hA [] rfl
    refine va_calli (va_runS (As := [.ref (D.2 51 1), .int a0, .int 0, .int 3]) (rest := []) ⟨hx, hb, hml, hown, hts⟩ (c_S_indexOfChar l D a0 _ g1 g2) (⟨z_cB 4 hE zw_1597 zw_119 zw_1599 rfl rfl rfl (by decide +kernel) ⟨(Nat.le_of_ble_eq_true rfl), (Nat.le_of_ble_eq_true rfl)⟩, hE.ts _ zw_1598⟩) ⟨hb_6, hc_6⟩ rfl rfl hl.1 rfl (lv_room (Nat.le_of_ble_eq_true rfl)) dJ1_indexOf_4cfef_33 ⟨(Nat.le_of_ble_eq_true rfl), (Nat.le_of_ble_eq_true rfl)⟩) hS (fun q _ h => hF_6 q h) hF_6 (fun r_6 u_6 t_6 H1 locs ht_6 hvm_6 hw_6 hB_6 hz_6 hk_6 hS1 => ?_)
    obtain ⟨hP, hK, hD⟩ := z_back (wc := []) (wr := []) (w1 := []) (tr := []) hP hK hD [] [] rfl rfl rfl (by decide) ht_6 hvm_6 hk_6 hF_6 [] rfl hB_6
    have hS := hS1
    have hP : va_P D vwCl [] H1 := hP
    have hD : va_D A [] := hD
    have hK : va_K D vwCl [] s := hK
    clear hS1
    exact W.iret (v := r_6) hx hb hr (fun t ht hW => ⟨⟨r_6, (), rfl, hw_6, z_end hP hK hD [] rfl rfl [] rfl ht hW.alike⟩, hS.F ht⟩) hS.2.2 dJ1_indexOf_4cfef_36
  · refine lv_if_ne (tgt := 9) hx hb dJ1_indexOf_4cfef_4 (by decide) (fun c_2 => absurd (by decide) c_2) (fun c_2 => ?_)
    refine lv_iconst (v := -1) hx hb dJ1_indexOf_4cfef_7 (by decide) ?_
    exact W.iret (v := (-1)) hx hb hr (fun t ht hW => ⟨⟨(-1), (), rfl, (Or.inr ⟨z_far g1, by decide⟩), z_end hP hK hD [] rfl rfl [] rfl ht hW.alike⟩, hS.F ht⟩) hS.2.2 dJ1_indexOf_4cfef_8
theorem dJ0_indexOf_7cf53_0 : decode cJ0_indexOf_7cf53 0 = .ok (.aload_n 0, 1) := by decide +kernel
theorem dJ0_indexOf_7cf53_1 : decode cJ0_indexOf_7cf53 1 = .ok (.invokevirtual 492, 3) := by decide +kernel
theorem zw_1575 : Cond.methodLink RJ0 492 yJ0_isLatin1_aae02 ∈ z_Ts := z_m 1575 (by decide +kernel) (by decide +kernel)
theorem zw_1576 : Cond.instanceMethod yJ0_isLatin1_aae02 ∈ z_Ts := z_m 1576 (by decide +kernel) (by decide +kernel)
theorem zw_1577 : Cond.selects RJ0 yJ0_isLatin1_aae02 yJ0_isLatin1_aae02 ∈ z_Ts := z_m 1577 (by decide +kernel) (by decide +kernel)
theorem zw_1578 : Cond.code yJ0_isLatin1_aae02 cJ0_isLatin1_aae02 1 (some .boolean) ∈ z_Ts := z_m 1578 (by decide +kernel) (by decide +kernel)
theorem dJ0_indexOf_7cf53_4 : decode cJ0_indexOf_7cf53 4 = .ok (.ifCond .eq 19, 3) := by decide +kernel
theorem dJ0_indexOf_7cf53_7 : decode cJ0_indexOf_7cf53 7 = .ok (.aload_n 0, 1) := by decide +kernel
theorem dJ0_indexOf_7cf53_8 : decode cJ0_indexOf_7cf53 8 = .ok (.getfield 9, 3) := by decide +kernel
theorem dJ0_indexOf_7cf53_11 : decode cJ0_indexOf_7cf53 11 = .ok (.iload_n 1, 1) := by decide +kernel
theorem dJ0_indexOf_7cf53_12 : decode cJ0_indexOf_7cf53 12 = .ok (.iload_n 2, 1) := by decide +kernel
theorem dJ0_indexOf_7cf53_13 : decode cJ0_indexOf_7cf53 13 = .ok (.aload_n 0, 1) := by decide +kernel
theorem dJ0_indexOf_7cf53_14 : decode cJ0_indexOf_7cf53 14 = .ok (.invokevirtual 505, 3) := by decide +kernel
theorem zw_1581 : Cond.methodLink RJ0 505 yJ0_length_8abf5 ∈ z_Ts := z_m 1581 (by decide +kernel) (by decide +kernel)
theorem zw_1582 : Cond.instanceMethod yJ0_length_8abf5 ∈ z_Ts := z_m 1582 (by decide +kernel) (by decide +kernel)
theorem zw_1583 : Cond.selects RJ0 yJ0_length_8abf5 yJ0_length_8abf5 ∈ z_Ts := z_m 1583 (by decide +kernel) (by decide +kernel)
theorem zw_1584 : Cond.code yJ0_length_8abf5 cJ0_length_8abf5 1 (some .int) ∈ z_Ts := z_m 1584 (by decide +kernel) (by decide +kernel)
theorem dJ0_indexOf_7cf53_17 : decode cJ0_indexOf_7cf53 17 = .ok (.invokestatic 637, 3) := by decide +kernel
theorem zw_1589 : Cond.methodLink RJ0 637 yJ1_indexOf_4cfef ∈ z_Ts := z_m 1589 (by decide +kernel) (by decide +kernel)
theorem zw_1591 : Cond.code yJ1_indexOf_4cfef cJ1_indexOf_4cfef 4 (some .int) ∈ z_Ts := z_m 1591 (by decide +kernel) (by decide +kernel)
theorem zw_1590 : Cond.static yJ1_indexOf_4cfef ∈ z_Ts := z_m 1590 (by decide +kernel) (by decide +kernel)
theorem dJ0_indexOf_7cf53_20 : decode cJ0_indexOf_7cf53 20 = .ok (.goto 16, 3) := by decide +kernel
theorem dJ0_indexOf_7cf53_36 : decode cJ0_indexOf_7cf53 36 = .ok (.ireturn, 1) := by decide +kernel
set_option maxHeartbeats 4000000 in
set_option maxRecDepth 100000 in
theorem c_S_indexOf2 (l : Launch) (D : va_G) (a0 : Int32) (sz : Nat)  : Met l yJ0_indexOf_7cf53 [Cond.code yJ0_indexOf_7cf53 cJ0_indexOf_7cf53 3 (some .int)] ({ frames := 2, cells := 0, slots := 0, locals := 90 }) (z_Pc D [.ref (D.2 51 0), .int a0, .int 0] [] [] sz) (va_Qi (fun (r : Int32) (_ : Unit) => ((a0 = 100 ∨ a0 = 110 ∨ a0 = 104) ∧ ¬ r < 0) ∨ (¬ (a0 = 100 ∨ a0 = 110 ∨ a0 = 104) ∧ r < 0)) (fun _ t => z_W D [] [] (va_A [] sz) t) (va_A [] sz)) 0 0 (va_A [] sz) := by
  refine Met.ofW (cc := cJ0_indexOf_7cf53) (maxL := 3) (ret := (some .int)) (by decide +kernel) rfl ?_
  intro p e s m args below meth c s₁ B hml hv
  obtain ⟨rfl, hsz, hP, hK, hD0, hE, hX0⟩ := hv
  have hx := B.exec
  have hb := B.bytes
  have hr := B.returns
  have hts := z_E.ts (args := [.ref (D.2 51 0), .int a0, .int 0].toArray) hE
  have hown : s.vm.findClass RJ0 = some m.cls := findClass_of_methodNamed B.named
  have hlocks := B.notSynchronized
  subst hsz
  have hD := hD0.self (sz := s.heap.size)
  generalize hAe : va_A [] s.heap.size = A at hD hX0 ⊢
  have hX : z_X D A s s.heap := hX0
  have hA : ∀ q : Nat, s.heap.size ≤ q → A q := fun q h => by rw [← hAe]; exact Or.inr h
  have hS : va_S A s.heap s.heap [] := va_S.rf
  have hP : va_P D vwCl [] s.heap := hP
  have hl := lv_entry ([.ref (D.2 51 0), .int a0, .int 0]) (n := 3) (Nat.le_of_ble_eq_true rfl)
  rw [lg_entry_eq]
  generalize (lg_sl ([.ref (D.2 51 0), .int a0, .int 0]) ++ List.replicate (3 - (lg_sl ([.ref (D.2 51 0), .int a0, .int 0])).length) Slot.unset).toArray = ls at hl ⊢
  have hl : lv_has ls 3 [(0, .ref (D.2 51 0)), (1, .int a0), (2, .int 0)] := hl
  skip
  refine lv_aload_n hx hb dJ0_indexOf_7cf53_0 rfl (lv_at hl 0 rfl) ?_
  obtain ⟨hb_1, hc_1⟩ := z_call (wc := []) (tc := []) ([.ref (D.2 51 0)]) hP hK hD hS hA hE hX [] rfl rfl [] rfl
  have hF_1 := va_free (wc := []) hD hS hA [] rfl
  refine va_calli (va_runV (As := []) (rest := []) ⟨hx, hb, hml, hown, hts⟩ (c_S_isLatin1 l D  _ ) (z_cV 0 hE zw_1575 zw_1576 zw_1577 zw_118 zw_1578 rfl rfl rfl (by decide +kernel) ⟨(Nat.le_of_ble_eq_true rfl), (Nat.le_of_ble_eq_true rfl)⟩) ⟨hb_1, vk_recv (i := 0) hX.2.2.2.2.1 (by decide) hS, hc_1⟩ rfl rfl hl.1 rfl (lv_room (Nat.le_of_ble_eq_true rfl)) dJ0_indexOf_7cf53_1 ⟨(Nat.le_of_ble_eq_true rfl), (Nat.le_of_ble_eq_true rfl)⟩) hS (fun q _ h => hF_1 q h) hF_1 (fun r_1 u_1 t_1 H1 locs ht_1 hvm_1 hw_1 hB_1 hz_1 hk_1 hS1 => ?_)
  obtain ⟨hP, hK, hD⟩ := z_back (wc := []) (wr := []) (w1 := []) (tr := []) hP hK hD [] [] rfl rfl rfl (by decide) ht_1 hvm_1 hk_1 hF_1 [] rfl hB_1
  have hS := hS1
  have hP : va_P D vwCl [] H1 := hP
  have hD : va_D A [] := hD
  have hK : va_K D vwCl [] s := hK
  clear hS1
  obtain rfl : r_1 = 1 := hw_1
  refine lv_if_eq (tgt := 23) hx hb dJ0_indexOf_7cf53_4 (by decide) (fun c_2 => absurd c_2 (by decide)) (fun c_2 => ?_)
  refine lv_aload_n hx hb dJ0_indexOf_7cf53_7 rfl (lv_at hl 0 rfl) ?_
  refine vk_getf (v := .ref (D.2 51 1)) hx hb (hX.2.2.2.2.1.1 0 (by decide)).2.2.1 hS hown (hts _ zw_1782) (fun _ h9 => h9) dJ0_indexOf_7cf53_8 ?_
  refine lv_iload_n hx hb dJ0_indexOf_7cf53_11 rfl (lv_at hl 1 rfl) ?_
  refine lv_iload_n hx hb dJ0_indexOf_7cf53_12 rfl (lv_at hl 2 rfl) ?_
  refine lv_aload_n hx hb dJ0_indexOf_7cf53_13 rfl (lv_at hl 0 rfl) ?_
  obtain ⟨hb_3, hc_3⟩ := z_call (wc := []) (tc := []) ([.ref (D.2 51 0)]) hP hK hD hS hA hE hX [] rfl rfl [] rfl
  have hF_3 := va_free (wc := []) hD hS hA [] rfl
  refine va_calli (va_runV (As := []) (rest := [.int 0, .int a0, .ref (D.2 51 1)]) ⟨hx, hb, hml, hown, hts⟩ (c_S_length l D  _ ) (z_cV 0 hE zw_1581 zw_1582 zw_1583 zw_118 zw_1584 rfl rfl rfl (by decide +kernel) ⟨(Nat.le_of_ble_eq_true rfl), (Nat.le_of_ble_eq_true rfl)⟩) ⟨hb_3, vk_recv (i := 0) hX.2.2.2.2.1 (by decide) hS, hc_3⟩ rfl rfl hl.1 rfl (lv_room (Nat.le_of_ble_eq_true rfl)) dJ0_indexOf_7cf53_14 ⟨(Nat.le_of_ble_eq_true rfl), (Nat.le_of_ble_eq_true rfl)⟩) hS (fun q _ h => hF_3 q h) hF_3 (fun r_3 u_3 t_3 H1 locs ht_3 hvm_3 hw_3 hB_3 hz_3 hk_3 hS1 => ?_)
  obtain ⟨hP, hK, hD⟩ := z_back (wc := []) (wr := []) (w1 := []) (tr := []) hP hK hD [] [] rfl rfl rfl (by decide) ht_3 hvm_3 hk_3 hF_3 [] rfl hB_3
  have hS := hS1
  have hP : va_P D vwCl [] H1 := hP
  have hD : va_D A [] := hD
  have hK : va_K D vwCl [] s := hK
  clear hS1
  obtain rfl : r_3 = 3 := hw_3
  obtain ⟨hb_4, hc_4⟩ := z_call (wc := []) (tc := []) ([.ref (D.2 51 1), .int a0, .int 0, .int 3]) hP hK hD hS hA hE hX [] rfl rfl [] rfl
  have hF_4 := va_free (wc := []) hD hS hA [] rfl
  refine va_calli (va_runS (As := [.ref (D.2 51 1), .int a0, .int 0, .int 3]) (rest := []) ⟨hx, hb, hml, hown, hts⟩ (c_S_indexOfL l D a0 _ ) (⟨z_cB 4 hE zw_1589 zw_119 zw_1591 rfl rfl rfl (by decide +kernel) ⟨(Nat.le_of_ble_eq_true rfl), (Nat.le_of_ble_eq_true rfl)⟩, hE.ts _ zw_1590⟩) ⟨hb_4, hc_4⟩ rfl rfl hl.1 rfl (lv_room (Nat.le_of_ble_eq_true rfl)) dJ0_indexOf_7cf53_17 ⟨(Nat.le_of_ble_eq_true rfl), (Nat.le_of_ble_eq_true rfl)⟩) hS (fun q _ h => hF_4 q h) hF_4 (fun r_4 u_4 t_4 H1 locs ht_4 hvm_4 hw_4 hB_4 hz_4 hk_4 hS1 => ?_)
  obtain ⟨hP, hK, hD⟩ := z_back (wc := []) (wr := []) (w1 := []) (tr := []) hP hK hD [] [] rfl rfl rfl (by decide) ht_4 hvm_4 hk_4 hF_4 [] rfl hB_4
  have hS := hS1
  have hP : va_P D vwCl [] H1 := hP
  have hD : va_D A [] := hD
  have hK : va_K D vwCl [] s := hK
  clear hS1
  refine lv_goto (tgt := 36) hx hb dJ0_indexOf_7cf53_20 (by decide) ?_
  exact W.iret (v := r_4) hx hb hr (fun t ht hW => ⟨⟨r_4, (), rfl, hw_4, z_end hP hK hD [] rfl rfl [] rfl ht hW.alike⟩, hS.F ht⟩) hS.2.2 dJ0_indexOf_7cf53_36
theorem dJ0_indexOf_0f7a4_0 : decode cJ0_indexOf_0f7a4 0 = .ok (.aload_n 0, 1) := by decide +kernel
theorem dJ0_indexOf_0f7a4_1 : decode cJ0_indexOf_0f7a4 1 = .ok (.iload_n 1, 1) := by decide +kernel
theorem dJ0_indexOf_0f7a4_2 : decode cJ0_indexOf_0f7a4 2 = .ok (.iconst 0, 1) := by decide +kernel
theorem dJ0_indexOf_0f7a4_3 : decode cJ0_indexOf_0f7a4 3 = .ok (.invokevirtual 633, 3) := by decide +kernel
theorem zw_1571 : Cond.methodLink RJ0 633 yJ0_indexOf_7cf53 ∈ z_Ts := z_m 1571 (by decide +kernel) (by decide +kernel)
theorem zw_1572 : Cond.instanceMethod yJ0_indexOf_7cf53 ∈ z_Ts := z_m 1572 (by decide +kernel) (by decide +kernel)
theorem zw_1573 : Cond.selects RJ0 yJ0_indexOf_7cf53 yJ0_indexOf_7cf53 ∈ z_Ts := z_m 1573 (by decide +kernel) (by decide +kernel)
theorem zw_1574 : Cond.code yJ0_indexOf_7cf53 cJ0_indexOf_7cf53 3 (some .int) ∈ z_Ts := z_m 1574 (by decide +kernel) (by decide +kernel)
theorem dJ0_indexOf_0f7a4_6 : decode cJ0_indexOf_0f7a4 6 = .ok (.ireturn, 1) := by decide +kernel
set_option maxHeartbeats 4000000 in
set_option maxRecDepth 100000 in
theorem c_S_indexOf1 (l : Launch) (D : va_G) (a0 : Int32) (sz : Nat)  : Met l yJ0_indexOf_0f7a4 [Cond.code yJ0_indexOf_0f7a4 cJ0_indexOf_0f7a4 2 (some .int)] ({ frames := 3, cells := 0, slots := 0, locals := 130 }) (z_Pc D [.ref (D.2 51 0), .int a0] [] [] sz) (va_Qi (fun (r : Int32) (_ : Unit) => ((a0 = 100 ∨ a0 = 110 ∨ a0 = 104) ∧ ¬ r < 0) ∨ (¬ (a0 = 100 ∨ a0 = 110 ∨ a0 = 104) ∧ r < 0)) (fun _ t => z_W D [] [] (va_A [] sz) t) (va_A [] sz)) 0 0 (va_A [] sz) := by
  refine Met.ofW (cc := cJ0_indexOf_0f7a4) (maxL := 2) (ret := (some .int)) (by decide +kernel) rfl ?_
  intro p e s m args below meth c s₁ B hml hv
  obtain ⟨rfl, hsz, hP, hK, hD0, hE, hX0⟩ := hv
  have hx := B.exec
  have hb := B.bytes
  have hr := B.returns
  have hts := z_E.ts (args := [.ref (D.2 51 0), .int a0].toArray) hE
  have hown : s.vm.findClass RJ0 = some m.cls := findClass_of_methodNamed B.named
  have hlocks := B.notSynchronized
  subst hsz
  have hD := hD0.self (sz := s.heap.size)
  generalize hAe : va_A [] s.heap.size = A at hD hX0 ⊢
  have hX : z_X D A s s.heap := hX0
  have hA : ∀ q : Nat, s.heap.size ≤ q → A q := fun q h => by rw [← hAe]; exact Or.inr h
  have hS : va_S A s.heap s.heap [] := va_S.rf
  have hP : va_P D vwCl [] s.heap := hP
  have hl := lv_entry ([.ref (D.2 51 0), .int a0]) (n := 2) (Nat.le_of_ble_eq_true rfl)
  rw [lg_entry_eq]
  generalize (lg_sl ([.ref (D.2 51 0), .int a0]) ++ List.replicate (2 - (lg_sl ([.ref (D.2 51 0), .int a0])).length) Slot.unset).toArray = ls at hl ⊢
  have hl : lv_has ls 2 [(0, .ref (D.2 51 0)), (1, .int a0)] := hl
  skip
  refine lv_aload_n hx hb dJ0_indexOf_0f7a4_0 rfl (lv_at hl 0 rfl) ?_
  refine lv_iload_n hx hb dJ0_indexOf_0f7a4_1 rfl (lv_at hl 1 rfl) ?_
  refine lv_iconst (v := 0) hx hb dJ0_indexOf_0f7a4_2 (by decide) ?_
  obtain ⟨hb_1, hc_1⟩ := z_call (wc := []) (tc := []) ([.ref (D.2 51 0), .int a0, .int 0]) hP hK hD hS hA hE hX [] rfl rfl [] rfl
  have hF_1 := va_free (wc := []) hD hS hA [] rfl
  refine va_calli (va_runV (As := [.int a0, .int 0]) (rest := []) ⟨hx, hb, hml, hown, hts⟩ (c_S_indexOf2 l D a0 _ ) (z_cV 2 hE zw_1571 zw_1572 zw_1573 zw_118 zw_1574 rfl rfl rfl (by decide +kernel) ⟨(Nat.le_of_ble_eq_true rfl), (Nat.le_of_ble_eq_true rfl)⟩) ⟨hb_1, vk_recv (i := 0) hX.2.2.2.2.1 (by decide) hS, hc_1⟩ rfl rfl hl.1 rfl (lv_room (Nat.le_of_ble_eq_true rfl)) dJ0_indexOf_0f7a4_3 ⟨(Nat.le_of_ble_eq_true rfl), (Nat.le_of_ble_eq_true rfl)⟩) hS (fun q _ h => hF_1 q h) hF_1 (fun r_1 u_1 t_1 H1 locs ht_1 hvm_1 hw_1 hB_1 hz_1 hk_1 hS1 => ?_)
  obtain ⟨hP, hK, hD⟩ := z_back (wc := []) (wr := []) (w1 := []) (tr := []) hP hK hD [] [] rfl rfl rfl (by decide) ht_1 hvm_1 hk_1 hF_1 [] rfl hB_1
  have hS := hS1
  have hP : va_P D vwCl [] H1 := hP
  have hD : va_D A [] := hD
  have hK : va_K D vwCl [] s := hK
  clear hS1
  exact W.iret (v := r_1) hx hb hr (fun t ht hW => ⟨⟨r_1, (), rfl, hw_1, z_end hP hK hD [] rfl rfl [] rfl ht hW.alike⟩, hS.F ht⟩) hS.2.2 dJ0_indexOf_0f7a4_6
theorem dX5_init_0 : decode cX5_init 0 = .ok (.aload_n 0, 1) := by decide +kernel
theorem dX5_init_1 : decode cX5_init 1 = .ok (.invokespecial 3, 3) := by decide +kernel
theorem zw_1653 : Cond.methodLink RX5 3 ⟨"java/lang/Object", "<init>", "()V"⟩ ∈ z_Ts := z_m 1653 (by decide +kernel) (by decide +kernel)
theorem dX5_init_4 : decode cX5_init 4 = .ok (.aload_n 0, 1) := by decide +kernel
theorem dX5_init_5 : decode cX5_init 5 = .ok (.iconst (-1), 1) := by decide +kernel
theorem dX5_init_6 : decode cX5_init 6 = .ok (.putfield 9, 3) := by decide +kernel
theorem zw_1656 : Cond.fieldLink RX5 9 "TwofrontArcadeModel$Crew" "unit" "I" ∈ z_Ts := z_m 1656 (by decide +kernel) (by decide +kernel)
set_option maxRecDepth 20000 in
theorem zin_X5 : ∀ w ∈ u_ws RX5 TX5 2, w ∈ z_Ts := z_ins (by decide +kernel) (by decide +kernel)
theorem dX5_init_9 : decode cX5_init 9 = .ok (.aload_n 0, 1) := by decide +kernel
theorem dX5_init_10 : decode cX5_init 10 = .ok (.iload_n 1, 1) := by decide +kernel
theorem dX5_init_11 : decode cX5_init 11 = .ok (.putfield 15, 3) := by decide +kernel
theorem zw_1654 : Cond.fieldLink RX5 15 "TwofrontArcadeModel$Crew" "trade" "C" ∈ z_Ts := z_m 1654 (by decide +kernel) (by decide +kernel)
theorem dX5_init_14 : decode cX5_init 14 = .ok (.return_, 1) := by decide +kernel
set_option maxHeartbeats 4000000 in
set_option maxRecDepth 100000 in
theorem c_X5_init (l : Launch) (D : va_G) (h0 : Nat) (a0 : Int32) (sz : Nat) (hna : narrow .char (.int a0) = .int a0) (hfa : fits .char (.int a0) = true) : Met l yX5_init [Cond.code yX5_init cX5_init 2 none] ({ frames := 1, cells := 0, slots := 0, locals := 40 }) (z_Pc D [.ref h0, .int a0] [(h0, .inr (7, [.int 0, .int 0]))] [] sz) (va_Qv (fun _ : Unit => True) (fun _ t => z_W D [(h0, .inr (7, [.int a0, .int (-1)]))] [] (va_A [(h0, .inr (7, [.int 0, .int 0]))] sz) t) (va_A [(h0, .inr (7, [.int 0, .int 0]))] sz)) 0 0 (va_A [(h0, .inr (7, [.int 0, .int 0]))] sz) := by
  refine Met.ofW (cc := cX5_init) (maxL := 2) (ret := none) (by decide +kernel) rfl ?_
  intro p e s m args below meth c s₁ B hml hv
  obtain ⟨rfl, hsz, hP, hK, hD0, hE, hX0⟩ := hv
  have hx := B.exec
  have hb := B.bytes
  have hr := B.returns
  have hts := z_E.ts (args := [.ref h0, .int a0].toArray) hE
  have hown : s.vm.findClass RX5 = some m.cls := findClass_of_methodNamed B.named
  have hlocks := B.notSynchronized
  have hin : meth.name = "<init>" := (name_of_methodNamed B.named B.method).1
  subst hsz
  have hD := hD0.self (sz := s.heap.size)
  generalize hAe : va_A [(h0, .inr (7, [.int 0, .int 0]))] s.heap.size = A at hD hX0 ⊢
  have hX : z_X D A s s.heap := hX0
  have hA : ∀ q : Nat, s.heap.size ≤ q → A q := fun q h => by rw [← hAe]; exact Or.inr h
  have hS : va_S A s.heap s.heap [] := va_S.rf
  have hP : va_P D vwCl [(h0, .inr (7, [.int 0, .int 0]))] s.heap := hP
  have hl := lv_entry ([.ref h0, .int a0]) (n := 2) (Nat.le_of_ble_eq_true rfl)
  rw [lg_entry_eq]
  generalize (lg_sl ([.ref h0, .int a0]) ++ List.replicate (2 - (lg_sl ([.ref h0, .int a0])).length) Slot.unset).toArray = ls at hl ⊢
  have hl : lv_has ls 2 [(0, .ref h0), (1, .int a0)] := hl
  skip
  refine lv_aload_n hx hb dX5_init_0 rfl (lv_at hl 0 rfl) ?_
  refine W.objInit hx hb hown (hts _ zw_1653) (hts _ zw_129) (hts _ zw_130) rfl (by rw [hml]; exact hl.1) rfl dX5_init_1 (Nat.le_of_ble_eq_true rfl) (Nat.le_of_ble_eq_true rfl) ?_
  refine W.eq (g2 := F0 m 4 ls []) rfl ?_
  refine lv_aload_n hx hb dX5_init_4 rfl (lv_at hl 0 rfl) ?_
  refine lv_iconst (v := -1) hx hb dX5_init_5 (by decide) ?_
  refine va_put (D := D) (ci := 7) (v := .int (-1)) (ty := .int) (C := RX5) (T := TX5) (N := 2) hx hb hts zin_X5 tyX5 tyX5_ok nmX5 hown hK hP hD hS 0 rfl rfl 1 (by decide) (hts _ zw_1656) (fun _ h9 => h9) rfl (by decide +kernel) rfl rfl (Nat.le_of_ble_eq_true rfl) dX5_init_6 (fun H locs hP hD hS => ?_)
  have hP : va_P D vwCl [(h0, .inr (7, [.int 0, .int (-1)]))] H := hP
  have hD : va_D A [(h0, .inr (7, [.int 0, .int (-1)]))] := hD
  refine lv_aload_n hx hb dX5_init_9 rfl (lv_at hl 0 rfl) ?_
  refine lv_iload_n hx hb dX5_init_10 rfl (lv_at hl 1 rfl) ?_
  refine va_putF (D := D) (ci := 7) (v := .int a0) (ty := .char) (C := RX5) (T := TX5) (N := 2) hx hb hts zin_X5 tyX5 tyX5_ok nmX5 hown hK hP hD hS 0 rfl rfl 0 (by decide) (hts _ zw_1654) (fun _ h9 => h9) rfl hin rfl (by decide +kernel) (by first | rfl | decide | assumption) (by first | rfl | decide | assumption) (Nat.le_of_ble_eq_true rfl) dX5_init_11 (fun H locs hP hD hS => ?_)
  have hP : va_P D vwCl [(h0, .inr (7, [.int a0, .int (-1)]))] H := hP
  have hD : va_D A [(h0, .inr (7, [.int a0, .int (-1)]))] := hD
  exact W.vret hx hb hr (fun t ht hW => ⟨⟨(), rfl, trivial, z_end hP hK hD [0] rfl rfl [] rfl ht hW.alike⟩, hS.F ht⟩) hS.2.2 dX5_init_14
theorem dX8_addCrew_0 : decode cX8_addCrew 0 = .ok (.aload_n 0, 1) := by decide +kernel
theorem dX8_addCrew_1 : decode cX8_addCrew 1 = .ok (.ldc_w 256, 3) := by decide +kernel
theorem dX8_addCrew_4 : decode cX8_addCrew 4 = .ok (.iload_n 1, 1) := by decide +kernel
theorem dX8_addCrew_5 : decode cX8_addCrew 5 = .ok (.invokevirtual 258, 3) := by decide +kernel
theorem zw_1567 : Cond.methodLink RX8 258 yJ0_indexOf_0f7a4 ∈ z_Ts := z_m 1567 (by decide +kernel) (by decide +kernel)
theorem zw_1568 : Cond.instanceMethod yJ0_indexOf_0f7a4 ∈ z_Ts := z_m 1568 (by decide +kernel) (by decide +kernel)
theorem zw_1569 : Cond.selects RJ0 yJ0_indexOf_0f7a4 yJ0_indexOf_0f7a4 ∈ z_Ts := z_m 1569 (by decide +kernel) (by decide +kernel)
theorem zw_1570 : Cond.code yJ0_indexOf_0f7a4 cJ0_indexOf_0f7a4 2 (some .int) ∈ z_Ts := z_m 1570 (by decide +kernel) (by decide +kernel)
theorem dX8_addCrew_8 : decode cX8_addCrew 8 = .ok (.ifCond .ge 7, 3) := by decide +kernel
theorem dX8_addCrew_15 : decode cX8_addCrew 15 = .ok (.aload_n 0, 1) := by decide +kernel
theorem dX8_addCrew_16 : decode cX8_addCrew 16 = .ok (.getfield 19, 3) := by decide +kernel
theorem dX8_addCrew_19 : decode cX8_addCrew 19 = .ok (.invokevirtual 33, 3) := by decide +kernel
theorem dX8_addCrew_22 : decode cX8_addCrew 22 = .ok (.iconst 4, 1) := by decide +kernel
theorem dX8_addCrew_23 : decode cX8_addCrew 23 = .ok (.if_icmp .ne 7, 3) := by decide +kernel
theorem dX8_addCrew_30 : decode cX8_addCrew 30 = .ok (.iconst 0, 1) := by decide +kernel
theorem dX8_addCrew_31 : decode cX8_addCrew 31 = .ok (.putfield 30, 3) := by decide +kernel
theorem dX8_addCrew_34 : decode cX8_addCrew 34 = .ok (.aload_n 0, 1) := by decide +kernel
theorem dX8_addCrew_35 : decode cX8_addCrew 35 = .ok (.getfield 30, 3) := by decide +kernel
theorem dX8_addCrew_38 : decode cX8_addCrew 38 = .ok (.ifCond .le 5, 3) := by decide +kernel
theorem dX8_addCrew_43 : decode cX8_addCrew 43 = .ok (.aload_n 0, 1) := by decide +kernel
theorem dX8_addCrew_44 : decode cX8_addCrew 44 = .ok (.getfield 19, 3) := by decide +kernel
theorem dX8_addCrew_47 : decode cX8_addCrew 47 = .ok (.new 201, 3) := by decide +kernel
theorem zw_1525 : Cond.classLink RX8 201 RX5 ∈ z_Ts := z_m 1525 (by decide +kernel) (by decide +kernel)
theorem zw_1649 : Cond.instantiable RX5 2 ∈ z_Ts := z_m 1649 (by decide +kernel) (by decide +kernel)
theorem zw_122 : Cond.initialized RX5 ∈ z_Ts := z_m 122 (by decide +kernel) (by decide +kernel)
theorem dX8_addCrew_50 : decode cX8_addCrew 50 = .ok (.dup, 1) := by decide +kernel
theorem dX8_addCrew_51 : decode cX8_addCrew 51 = .ok (.iload_n 1, 1) := by decide +kernel
theorem dX8_addCrew_52 : decode cX8_addCrew 52 = .ok (.invokespecial 263, 3) := by decide +kernel
theorem zw_1650 : Cond.methodLink RX8 263 yX5_init ∈ z_Ts := z_m 1650 (by decide +kernel) (by decide +kernel)
theorem zw_1652 : Cond.code yX5_init cX5_init 2 none ∈ z_Ts := z_m 1652 (by decide +kernel) (by decide +kernel)
theorem zw_1651 : Cond.instanceMethod yX5_init ∈ z_Ts := z_m 1651 (by decide +kernel) (by decide +kernel)
theorem dX8_addCrew_55 : decode cX8_addCrew 55 = .ok (.invokevirtual 58, 3) := by decide +kernel
theorem dX8_addCrew_58 : decode cX8_addCrew 58 = .ok (.pop, 1) := by decide +kernel
theorem dX8_addCrew_59 : decode cX8_addCrew 59 = .ok (.aload_n 0, 1) := by decide +kernel
theorem dX8_addCrew_60 : decode cX8_addCrew 60 = .ok (.getfield 19, 3) := by decide +kernel
theorem dX8_addCrew_63 : decode cX8_addCrew 63 = .ok (.invokevirtual 33, 3) := by decide +kernel
theorem dX8_addCrew_66 : decode cX8_addCrew 66 = .ok (.iconst 1, 1) := by decide +kernel
theorem dX8_addCrew_67 : decode cX8_addCrew 67 = .ok (.isub, 1) := by decide +kernel
theorem dX8_addCrew_68 : decode cX8_addCrew 68 = .ok (.ireturn, 1) := by decide +kernel
theorem dX8_addCrew_11 : decode cX8_addCrew 11 = .ok (.iconst 1, 1) := by decide +kernel
theorem dX8_addCrew_12 : decode cX8_addCrew 12 = .ok (.goto 19, 3) := by decide +kernel
theorem dX8_addCrew_41 : decode cX8_addCrew 41 = .ok (.iconst 0, 1) := by decide +kernel
theorem dX8_addCrew_42 : decode cX8_addCrew 42 = .ok (.ireturn, 1) := by decide +kernel
set_option maxHeartbeats 4000000 in
set_option maxRecDepth 100000 in
theorem g_X8_addCrew (l : Launch) (D : va_G) (m0 : Nat) (qu : Nat) (qs : Nat) (qc : Nat) (qp : Nat) (th : Int32) (a0 : Int32) (sz : Nat) (hna : narrow .char (.int a0) = .int a0) (hfa : fits .char (.int a0) = true) : Met l yX8_addCrew [Cond.code yX8_addCrew cX8_addCrew 2 (some .int)] ({ frames := 5, cells := 2, slots := 12, locals := 200 }) (z_Pc D [.ref m0, .int a0] [(m0, .inr (10, [.int th, .ref qu, .ref qs, .ref qc, .ref qp, .int 0, .int (-1), .int 0, .null])), (qc, .inr (1, [.int 0, .ref (D.2 50 0), .int 0]))] [] sz) (va_Qi (fun (r : Int32) (_ : Unit) => r = 0) (fun _ t => ∃ t1 : Int32, t1 = (if (a0 = 100 ∨ a0 = 110 ∨ a0 = 104) then 0 else 1) ∧ z_W D [(m0, .inr (10, [.int t1, .ref qu, .ref qs, .ref qc, .ref qp, .int 0, .int (-1), .int 0, .null]))] [] (va_A [(m0, .inr (10, [.int th, .ref qu, .ref qs, .ref qc, .ref qp, .int 0, .int (-1), .int 0, .null])), (qc, .inr (1, [.int 0, .ref (D.2 50 0), .int 0]))] sz) t) (va_A [(m0, .inr (10, [.int th, .ref qu, .ref qs, .ref qc, .ref qp, .int 0, .int (-1), .int 0, .null])), (qc, .inr (1, [.int 0, .ref (D.2 50 0), .int 0]))] sz)) 2 12 (va_A [(m0, .inr (10, [.int th, .ref qu, .ref qs, .ref qc, .ref qp, .int 0, .int (-1), .int 0, .null])), (qc, .inr (1, [.int 0, .ref (D.2 50 0), .int 0]))] sz) := by
  refine Met.ofW (cc := cX8_addCrew) (maxL := 2) (ret := (some .int)) (by decide +kernel) rfl ?_
  intro p e s m args below meth c s₁ B hml hv
  obtain ⟨rfl, hsz, hP, hK, hD0, hE, hX0⟩ := hv
  have hx := B.exec
  have hb := B.bytes
  have hr := B.returns
  have hts := z_E.ts (args := [.ref m0, .int a0].toArray) hE
  have hown : s.vm.findClass RX8 = some m.cls := findClass_of_methodNamed B.named
  have hlocks := B.notSynchronized
  subst hsz
  have hD := hD0.self (sz := s.heap.size)
  generalize hAe : va_A [(m0, .inr (10, [.int th, .ref qu, .ref qs, .ref qc, .ref qp, .int 0, .int (-1), .int 0, .null])), (qc, .inr (1, [.int 0, .ref (D.2 50 0), .int 0]))] s.heap.size = A at hD hX0 ⊢
  have hX : z_X D A s s.heap := hX0
  have hA : ∀ q : Nat, s.heap.size ≤ q → A q := fun q h => by rw [← hAe]; exact Or.inr h
  have hS : va_S A s.heap s.heap [] := va_S.rf
  have hP : va_P D vwCl [(m0, .inr (10, [.int th, .ref qu, .ref qs, .ref qc, .ref qp, .int 0, .int (-1), .int 0, .null])), (qc, .inr (1, [.int 0, .ref (D.2 50 0), .int 0]))] s.heap := hP
  have hl := lv_entry ([.ref m0, .int a0]) (n := 2) (Nat.le_of_ble_eq_true rfl)
  rw [lg_entry_eq]
  generalize (lg_sl ([.ref m0, .int a0]) ++ List.replicate (2 - (lg_sl ([.ref m0, .int a0])).length) Slot.unset).toArray = ls at hl ⊢
  have hl : lv_has ls 2 [(0, .ref m0), (1, .int a0)] := hl
  skip
  refine lv_aload_n hx hb dX8_addCrew_0 rfl (lv_at hl 0 rfl) ?_
  refine z_ldcSW hx hb hown hX.2.2.2.1 dX8_addCrew_1 ?_
  refine lv_iload_n hx hb dX8_addCrew_4 rfl (lv_at hl 1 rfl) ?_
  obtain ⟨hb_1, hc_1⟩ := z_call (wc := []) (tc := []) ([.ref (D.2 51 0), .int a0]) hP hK hD hS hA hE hX [] rfl rfl [] rfl
  have hF_1 := va_free (wc := []) hD hS hA [] rfl
  refine va_calli (va_runV (As := [.int a0]) (rest := [.ref m0]) ⟨hx, hb, hml, hown, hts⟩ (c_S_indexOf1 l D a0 _ ) (z_cV 1 hE zw_1567 zw_1568 zw_1569 zw_118 zw_1570 rfl rfl rfl (by decide +kernel) ⟨(Nat.le_of_ble_eq_true rfl), (Nat.le_of_ble_eq_true rfl)⟩) ⟨hb_1, vk_recv (i := 0) hX.2.2.2.2.1 (by decide) hS, hc_1⟩ rfl rfl hl.1 rfl (lv_room (Nat.le_of_ble_eq_true rfl)) dX8_addCrew_5 ⟨(Nat.le_of_ble_eq_true rfl), (Nat.le_of_ble_eq_true rfl)⟩) hS (fun q _ h => hF_1 q h) hF_1 (fun r_1 u_1 t_1 H1 locs ht_1 hvm_1 hw_1 hB_1 hz_1 hk_1 hS1 => ?_)
  obtain ⟨hP, hK, hD⟩ := z_back (wc := []) (wr := [(m0, .inr (10, [.int th, .ref qu, .ref qs, .ref qc, .ref qp, .int 0, .int (-1), .int 0, .null])), (qc, .inr (1, [.int 0, .ref (D.2 50 0), .int 0]))]) (w1 := []) (tr := []) hP hK hD [] [0, 1] rfl rfl rfl (by decide) ht_1 hvm_1 hk_1 hF_1 [] rfl hB_1
  have hS := hS1
  have hP : va_P D vwCl [(m0, .inr (10, [.int th, .ref qu, .ref qs, .ref qc, .ref qp, .int 0, .int (-1), .int 0, .null])), (qc, .inr (1, [.int 0, .ref (D.2 50 0), .int 0]))] H1 := hP
  have hD : va_D A [(m0, .inr (10, [.int th, .ref qu, .ref qs, .ref qc, .ref qp, .int 0, .int (-1), .int 0, .null])), (qc, .inr (1, [.int 0, .ref (D.2 50 0), .int 0]))] := hD
  have hK : va_K D vwCl [] s := hK
  clear hS1
  rcases hw_1 with ⟨g1, g2⟩ | ⟨g1, g2⟩
  · refine lv_if_ge (tgt := 15) hx hb dX8_addCrew_8 (by decide) (fun c_2 => ?_) (fun c_2 => absurd (Int32.not_lt.mp g2) c_2)
    refine lv_aload_n hx hb dX8_addCrew_15 rfl (lv_at hl 0 rfl) ?_
    refine va_get (D := D) (ci := 10) (v := .ref qc) (C := RX8) (T := TX8) (N := 9) hx hb hts zin_X8 hown hK hP 0 rfl rfl 3 (by decide) (hts _ zw_1083) (fun _ h9 => h9) rfl dX8_addCrew_16 ?_
    obtain ⟨hb_3, hc_3⟩ := z_call (wc := [(qc, .inr (1, [.int 0, .ref (D.2 50 0), .int 0]))]) (tc := []) ([.ref qc]) hP hK hD hS hA hE hX [1] rfl rfl [] rfl
    have hF_3 := va_free (wc := [(qc, .inr (1, [.int 0, .ref (D.2 50 0), .int 0]))]) hD hS hA [1] rfl
    refine va_calli (va_runV (As := []) (rest := [.ref m0]) ⟨hx, hb, hml, hown, hts⟩ (c_J_size l D qc 0 (D.2 50 0) 0 _ ) (z_cV 0 hE zw_1125 zw_1126 zw_1127 zw_99 zw_1128 rfl rfl rfl (by decide +kernel) ⟨(Nat.le_of_ble_eq_true rfl), (Nat.le_of_ble_eq_true rfl)⟩) ⟨hb_3, va_recv hK hP (ci := 1) (q0 := 1) rfl rfl, hc_3⟩ rfl rfl hl.1 rfl (lv_room (Nat.le_of_ble_eq_true rfl)) dX8_addCrew_19 ⟨(Nat.le_of_ble_eq_true rfl), (Nat.le_of_ble_eq_true rfl)⟩) hS (fun q _ h => hF_3 q h) hF_3 (fun r_3 u_3 t_3 H1 locs ht_3 hvm_3 hw_3 hB_3 hz_3 hk_3 hS1 => ?_)
    obtain ⟨hP, hK, hD⟩ := z_back (wc := [(qc, .inr (1, [.int 0, .ref (D.2 50 0), .int 0]))]) (wr := [(m0, .inr (10, [.int th, .ref qu, .ref qs, .ref qc, .ref qp, .int 0, .int (-1), .int 0, .null]))]) (w1 := [(qc, .inr (1, [.int 0, .ref (D.2 50 0), .int 0]))]) (tr := []) hP hK hD [1] [0] rfl rfl rfl (by decide) ht_3 hvm_3 hk_3 hF_3 [] rfl hB_3
    have hS := hS1
    have hP : va_P D vwCl [(m0, .inr (10, [.int th, .ref qu, .ref qs, .ref qc, .ref qp, .int 0, .int (-1), .int 0, .null])), (qc, .inr (1, [.int 0, .ref (D.2 50 0), .int 0]))] H1 := hP
    have hD : va_D A [(m0, .inr (10, [.int th, .ref qu, .ref qs, .ref qc, .ref qp, .int 0, .int (-1), .int 0, .null])), (qc, .inr (1, [.int 0, .ref (D.2 50 0), .int 0]))] := hD
    have hK : va_K D vwCl [] s := hK
    clear hS1
    obtain rfl : r_3 = 0 := hw_3
    refine lv_iconst (v := 4) hx hb dX8_addCrew_22 (by decide) ?_
    refine lv_icmp_ne (tgt := 30) hx hb dX8_addCrew_23 (by decide) (fun c_4 => ?_) (fun c_4 => absurd c_4 (by decide))
    refine lv_iconst (v := 0) hx hb dX8_addCrew_30 (by decide) ?_
    refine va_put (D := D) (ci := 10) (v := .int 0) (ty := .int) (C := RX8) (T := TX8) (N := 9) hx hb hts zin_X8 tyX8 tyX8_ok nmX8 hown hK hP hD hS 0 rfl rfl 0 (by decide) (hts _ zw_1080) (fun _ h9 => h9) rfl (by decide +kernel) rfl rfl (Nat.le_of_ble_eq_true rfl) dX8_addCrew_31 (fun H locs hP hD hS => ?_)
    have hP : va_P D vwCl [(m0, .inr (10, [.int 0, .ref qu, .ref qs, .ref qc, .ref qp, .int 0, .int (-1), .int 0, .null])), (qc, .inr (1, [.int 0, .ref (D.2 50 0), .int 0]))] H := hP
    have hD : va_D A [(m0, .inr (10, [.int 0, .ref qu, .ref qs, .ref qc, .ref qp, .int 0, .int (-1), .int 0, .null])), (qc, .inr (1, [.int 0, .ref (D.2 50 0), .int 0]))] := hD
    refine lv_aload_n hx hb dX8_addCrew_34 rfl (lv_at hl 0 rfl) ?_
    refine va_get (D := D) (ci := 10) (v := .int 0) (C := RX8) (T := TX8) (N := 9) hx hb hts zin_X8 hown hK hP 0 rfl rfl 0 (by decide) (hts _ zw_1080) (fun _ h9 => h9) rfl dX8_addCrew_35 ?_
    refine lv_if_le (tgt := 43) hx hb dX8_addCrew_38 (by decide) (fun c_5 => ?_) (fun c_5 => absurd (by decide) c_5)
    refine lv_aload_n hx hb dX8_addCrew_43 rfl (lv_at hl 0 rfl) ?_
    refine va_get (D := D) (ci := 10) (v := .ref qc) (C := RX8) (T := TX8) (N := 9) hx hb hts zin_X8 hown hK hP 0 rfl rfl 3 (by decide) (hts _ zw_1083) (fun _ h9 => h9) rfl dX8_addCrew_44 ?_
    refine va_new (ci := 7) (fs := [.int 0, .int 0]) (C := RX5) (T := TX5) (N := 2) hx hb hts zin_X5 tyX5 tyX5_ok hown (hts _ zw_1525) (hts _ zw_1649) (hts _ zw_122) hK hP hD hS hA rfl (fun j hj => by rcases (show j = 0 ∨ j = 1 by omega) with rfl | rfl <;> rfl) (Nat.le_of_ble_eq_true rfl) (Nat.le_of_ble_eq_true rfl) dX8_addCrew_47 (fun q_6 H hP hD hS => ?_)
    have hP : va_P D vwCl [(m0, .inr (10, [.int 0, .ref qu, .ref qs, .ref qc, .ref qp, .int 0, .int (-1), .int 0, .null])), (qc, .inr (1, [.int 0, .ref (D.2 50 0), .int 0])), (q_6, .inr (7, [.int 0, .int 0]))] H := hP
    have hD : va_D A [(m0, .inr (10, [.int 0, .ref qu, .ref qs, .ref qc, .ref qp, .int 0, .int (-1), .int 0, .null])), (qc, .inr (1, [.int 0, .ref (D.2 50 0), .int 0])), (q_6, .inr (7, [.int 0, .int 0]))] := hD
    refine lv_dup hx hb dX8_addCrew_50 rfl ?_
    refine lv_iload_n hx hb dX8_addCrew_51 rfl (lv_at hl 1 rfl) ?_
    obtain ⟨hb_7, hc_7⟩ := z_call (wc := [(q_6, .inr (7, [.int 0, .int 0]))]) (tc := []) ([.ref q_6, .int a0]) hP hK hD hS hA hE hX [2] rfl rfl [] rfl
    have hF_7 := va_free (wc := [(q_6, .inr (7, [.int 0, .int 0]))]) hD hS hA [2] rfl
    refine va_callv (va_runI (As := [.int a0]) (rest := [.ref q_6, .ref qc]) ⟨hx, hb, hml, hown, hts⟩ (c_X5_init l D q_6 a0 _ hna hfa) (⟨z_cB 1 hE zw_1650 zw_122 zw_1652 rfl rfl rfl (by decide +kernel) ⟨(Nat.le_of_ble_eq_true rfl), (Nat.le_of_ble_eq_true rfl)⟩, rfl, hE.ts _ zw_1651⟩) ⟨hb_7, hc_7⟩ rfl rfl hl.1 rfl (lv_room (Nat.le_of_ble_eq_true rfl)) dX8_addCrew_52 ⟨(Nat.le_of_ble_eq_true rfl), (Nat.le_of_ble_eq_true rfl)⟩) hS (fun q _ h => hF_7 q h) hF_7 (fun u_7 t_7 H1 locs ht_7 hvm_7 hw_7 hB_7 hz_7 hk_7 hS1 => ?_)
    obtain ⟨hP, hK, hD⟩ := z_back (wc := [(q_6, .inr (7, [.int 0, .int 0]))]) (wr := [(m0, .inr (10, [.int 0, .ref qu, .ref qs, .ref qc, .ref qp, .int 0, .int (-1), .int 0, .null])), (qc, .inr (1, [.int 0, .ref (D.2 50 0), .int 0]))]) (w1 := [(q_6, .inr (7, [.int a0, .int (-1)]))]) (tr := []) hP hK hD [2] [0, 1] rfl rfl rfl (by decide) ht_7 hvm_7 hk_7 hF_7 [] rfl hB_7
    have hS := hS1
    have hP : va_P D vwCl [(m0, .inr (10, [.int 0, .ref qu, .ref qs, .ref qc, .ref qp, .int 0, .int (-1), .int 0, .null])), (qc, .inr (1, [.int 0, .ref (D.2 50 0), .int 0])), (q_6, .inr (7, [.int a0, .int (-1)]))] H1 := hP
    have hD : va_D A [(m0, .inr (10, [.int 0, .ref qu, .ref qs, .ref qc, .ref qp, .int 0, .int (-1), .int 0, .null])), (qc, .inr (1, [.int 0, .ref (D.2 50 0), .int 0])), (q_6, .inr (7, [.int a0, .int (-1)]))] := hD
    have hK : va_K D vwCl [] s := hK
    clear hS1
    obtain ⟨hb_9, hc_9⟩ := z_call (wc := [(qc, .inr (1, [.int 0, .ref (D.2 50 0), .int 0])), (q_6, .inr (7, [.int a0, .int (-1)]))]) (tc := []) ([.ref qc, .ref q_6]) hP hK hD hS hA hE hX [1, 2] rfl rfl [] rfl
    have hF_9 := va_free (wc := [(qc, .inr (1, [.int 0, .ref (D.2 50 0), .int 0])), (q_6, .inr (7, [.int a0, .int (-1)]))]) hD hS hA [1, 2] rfl
    refine va_calli (va_runV (As := [.ref q_6]) (rest := []) ⟨hx, hb, hml, hown, hts⟩ (c_al_add1_7 l D qc q_6 ([.int a0, .int (-1)]) _ ) (z_cV 1 hE zw_1164 zw_1165 zw_1166 zw_99 zw_1167 rfl rfl rfl (by decide +kernel) ⟨(Nat.le_of_ble_eq_true rfl), (Nat.le_of_ble_eq_true rfl)⟩) ⟨hb_9, va_recv hK hP (ci := 1) (q0 := 1) rfl rfl, hc_9⟩ rfl rfl hl.1 rfl (lv_room (Nat.le_of_ble_eq_true rfl)) dX8_addCrew_55 ⟨(Nat.le_of_ble_eq_true rfl), (Nat.le_of_ble_eq_true rfl)⟩) hS (fun q _ h => hF_9 q h) hF_9 (fun r_9 u_9 t_9 H1 locs ht_9 hvm_9 hw_9 hB_9 hz_9 hk_9 hS1 => ?_)
    obtain ⟨qn_8, hB_9⟩ := hB_9
    obtain ⟨hP, hK, hD⟩ := z_back (wc := [(qc, .inr (1, [.int 0, .ref (D.2 50 0), .int 0])), (q_6, .inr (7, [.int a0, .int (-1)]))]) (wr := [(m0, .inr (10, [.int 0, .ref qu, .ref qs, .ref qc, .ref qp, .int 0, .int (-1), .int 0, .null]))]) (w1 := [(qc, .inr (1, [.int 1, .ref qn_8, .int 1]))]) (tr := []) hP hK hD [1, 2] [0] rfl rfl rfl (by decide) ht_9 hvm_9 hk_9 hF_9 [] rfl hB_9
    have hS := hS1
    have hP : va_P D vwCl [(m0, .inr (10, [.int 0, .ref qu, .ref qs, .ref qc, .ref qp, .int 0, .int (-1), .int 0, .null])), (qc, .inr (1, [.int 1, .ref qn_8, .int 1]))] H1 := hP
    have hD : va_D A [(m0, .inr (10, [.int 0, .ref qu, .ref qs, .ref qc, .ref qp, .int 0, .int (-1), .int 0, .null])), (qc, .inr (1, [.int 1, .ref qn_8, .int 1]))] := hD
    have hK : va_K D vwCl [] s := hK
    clear hS1
    obtain rfl : r_9 = 1 := hw_9
    refine lv_pop hx hb dX8_addCrew_58 rfl ?_
    refine lv_aload_n hx hb dX8_addCrew_59 rfl (lv_at hl 0 rfl) ?_
    refine va_get (D := D) (ci := 10) (v := .ref qc) (C := RX8) (T := TX8) (N := 9) hx hb hts zin_X8 hown hK hP 0 rfl rfl 3 (by decide) (hts _ zw_1083) (fun _ h9 => h9) rfl dX8_addCrew_60 ?_
    obtain ⟨hb_10, hc_10⟩ := z_call (wc := [(qc, .inr (1, [.int 1, .ref qn_8, .int 1]))]) (tc := []) ([.ref qc]) hP hK hD hS hA hE hX [1] rfl rfl [] rfl
    have hF_10 := va_free (wc := [(qc, .inr (1, [.int 1, .ref qn_8, .int 1]))]) hD hS hA [1] rfl
    refine va_calli (va_runV (As := []) (rest := []) ⟨hx, hb, hml, hown, hts⟩ (c_J_size l D qc 1 qn_8 1 _ ) (z_cV 0 hE zw_1125 zw_1126 zw_1127 zw_99 zw_1128 rfl rfl rfl (by decide +kernel) ⟨(Nat.le_of_ble_eq_true rfl), (Nat.le_of_ble_eq_true rfl)⟩) ⟨hb_10, va_recv hK hP (ci := 1) (q0 := 1) rfl rfl, hc_10⟩ rfl rfl hl.1 rfl (lv_room (Nat.le_of_ble_eq_true rfl)) dX8_addCrew_63 ⟨(Nat.le_of_ble_eq_true rfl), (Nat.le_of_ble_eq_true rfl)⟩) hS (fun q _ h => hF_10 q h) hF_10 (fun r_10 u_10 t_10 H1 locs ht_10 hvm_10 hw_10 hB_10 hz_10 hk_10 hS1 => ?_)
    obtain ⟨hP, hK, hD⟩ := z_back (wc := [(qc, .inr (1, [.int 1, .ref qn_8, .int 1]))]) (wr := [(m0, .inr (10, [.int 0, .ref qu, .ref qs, .ref qc, .ref qp, .int 0, .int (-1), .int 0, .null]))]) (w1 := [(qc, .inr (1, [.int 1, .ref qn_8, .int 1]))]) (tr := []) hP hK hD [1] [0] rfl rfl rfl (by decide) ht_10 hvm_10 hk_10 hF_10 [] rfl hB_10
    have hS := hS1
    have hP : va_P D vwCl [(m0, .inr (10, [.int 0, .ref qu, .ref qs, .ref qc, .ref qp, .int 0, .int (-1), .int 0, .null])), (qc, .inr (1, [.int 1, .ref qn_8, .int 1]))] H1 := hP
    have hD : va_D A [(m0, .inr (10, [.int 0, .ref qu, .ref qs, .ref qc, .ref qp, .int 0, .int (-1), .int 0, .null])), (qc, .inr (1, [.int 1, .ref qn_8, .int 1]))] := hD
    have hK : va_K D vwCl [] s := hK
    clear hS1
    obtain rfl : r_10 = 1 := hw_10
    refine lv_iconst (v := 1) hx hb dX8_addCrew_66 (by decide) ?_
    refine lv_isub hx hb dX8_addCrew_67 ?_
    refine lv_topi (fun x_11 ex_11 => ?_)
    obtain rfl : x_11 = 0 := ex_11.trans (by first | rfl | decide | simp)
    exact W.iret (v := 0) hx hb hr (fun t ht hW => ⟨⟨0, (), rfl, rfl, ⟨0, (if_pos g1).symm, z_end hP hK hD [0] rfl rfl [] rfl ht hW.alike⟩⟩, hS.F ht⟩) hS.2.2 dX8_addCrew_68
  · refine lv_if_ge (tgt := 15) hx hb dX8_addCrew_8 (by decide) (fun c_2 => absurd c_2 (Int32.not_le.mpr g2)) (fun c_2 => ?_)
    refine lv_iconst (v := 1) hx hb dX8_addCrew_11 (by decide) ?_
    refine lv_goto (tgt := 31) hx hb dX8_addCrew_12 (by decide) ?_
    refine va_put (D := D) (ci := 10) (v := .int 1) (ty := .int) (C := RX8) (T := TX8) (N := 9) hx hb hts zin_X8 tyX8 tyX8_ok nmX8 hown hK hP hD hS 0 rfl rfl 0 (by decide) (hts _ zw_1080) (fun _ h9 => h9) rfl (by decide +kernel) rfl rfl (Nat.le_of_ble_eq_true rfl) dX8_addCrew_31 (fun H locs hP hD hS => ?_)
    have hP : va_P D vwCl [(m0, .inr (10, [.int 1, .ref qu, .ref qs, .ref qc, .ref qp, .int 0, .int (-1), .int 0, .null])), (qc, .inr (1, [.int 0, .ref (D.2 50 0), .int 0]))] H := hP
    have hD : va_D A [(m0, .inr (10, [.int 1, .ref qu, .ref qs, .ref qc, .ref qp, .int 0, .int (-1), .int 0, .null])), (qc, .inr (1, [.int 0, .ref (D.2 50 0), .int 0]))] := hD
    refine lv_aload_n hx hb dX8_addCrew_34 rfl (lv_at hl 0 rfl) ?_
    refine va_get (D := D) (ci := 10) (v := .int 1) (C := RX8) (T := TX8) (N := 9) hx hb hts zin_X8 hown hK hP 0 rfl rfl 0 (by decide) (hts _ zw_1080) (fun _ h9 => h9) rfl dX8_addCrew_35 ?_
    refine lv_if_le (tgt := 43) hx hb dX8_addCrew_38 (by decide) (fun c_3 => absurd c_3 (by decide)) (fun c_3 => ?_)
    refine lv_iconst (v := 0) hx hb dX8_addCrew_41 (by decide) ?_
    refine W.widen (k := 2) (n := 12) (Nat.le_of_ble_eq_true rfl) (Nat.le_of_ble_eq_true rfl) ?_
    exact W.iret (v := 0) hx hb hr (fun t ht hW => ⟨⟨0, (), rfl, rfl, ⟨1, (if_neg g1).symm, z_end hP hK hD [0] rfl rfl [] rfl ht hW.alike⟩⟩, hS.F ht⟩) hS.2.2 dX8_addCrew_42
