theorem dX4_unitsWithWork_0 : decode cX4_unitsWithWork 0 = .ok (.iconst 0, 1) := by decide +kernel
theorem dX4_unitsWithWork_1 : decode cX4_unitsWithWork 1 = .ok (.istore_n 2, 1) := by decide +kernel
theorem dX4_unitsWithWork_2 : decode cX4_unitsWithWork 2 = .ok (.iconst 0, 1) := by decide +kernel
theorem dX4_unitsWithWork_3 : decode cX4_unitsWithWork 3 = .ok (.istore_n 3, 1) := by decide +kernel
theorem dX4_unitsWithWork_4 : decode cX4_unitsWithWork 4 = .ok (.iload_n 3, 1) := by decide +kernel
theorem dX4_unitsWithWork_5 : decode cX4_unitsWithWork 5 = .ok (.aload_n 0, 1) := by decide +kernel
theorem dX4_unitsWithWork_6 : decode cX4_unitsWithWork 6 = .ok (.getfield 38, 3) := by decide +kernel
theorem dX4_unitsWithWork_9 : decode cX4_unitsWithWork 9 = .ok (.if_icmp .ge 29, 3) := by decide +kernel
theorem dX4_unitsWithWork_38 : decode cX4_unitsWithWork 38 = .ok (.iload_n 2, 1) := by decide +kernel
theorem dX4_unitsWithWork_39 : decode cX4_unitsWithWork 39 = .ok (.ireturn, 1) := by decide +kernel
set_option maxHeartbeats 4000000 in
set_option maxRecDepth 100000 in
theorem k_X4_unitsWithWork (l : Launch) (D : va_G) (h0 : Nat) (hu : Nat) (hs : Nat) (hc : Nat) (hp : Nat) (hg : Nat) (td : Int32) (sd : Int32) (a0 : Int32) (sz : Nat)  : Met l yX4_unitsWithWork [Cond.code yX4_unitsWithWork cX4_unitsWithWork 4 (some .int)] ({ frames := 0, cells := 0, slots := 0, locals := 0 }) (z_Pc D [.ref h0, .int a0] [(h0, .inr (6, [.ref hu, .ref hs, .ref hc, .ref hp, .ref hg, .int 0, .int 0, .int 0, .int td, .int sd]))] [] sz) (va_Qi (fun (r : Int32) (_ : Unit) => r = 0) (fun _ t => z_W D [(h0, .inr (6, [.ref hu, .ref hs, .ref hc, .ref hp, .ref hg, .int 0, .int 0, .int 0, .int td, .int sd]))] [] (va_A [(h0, .inr (6, [.ref hu, .ref hs, .ref hc, .ref hp, .ref hg, .int 0, .int 0, .int 0, .int td, .int sd]))] sz) t) (va_A [(h0, .inr (6, [.ref hu, .ref hs, .ref hc, .ref hp, .ref hg, .int 0, .int 0, .int 0, .int td, .int sd]))] sz)) 0 0 (va_A [(h0, .inr (6, [.ref hu, .ref hs, .ref hc, .ref hp, .ref hg, .int 0, .int 0, .int 0, .int td, .int sd]))] sz) := by
  refine Met.ofW (cc := cX4_unitsWithWork) (maxL := 4) (ret := (some .int)) (by decide +kernel) rfl ?_
  intro p e s m args below meth c s₁ B hml hv
  obtain ⟨rfl, hsz, hP, hK, hD0, hE, hX0⟩ := hv
  have hx := B.exec
  have hb := B.bytes
  have hr := B.returns
  have hts := z_E.ts (args := [.ref h0, .int a0].toArray) hE
  have hown : s.vm.findClass RX4 = some m.cls := findClass_of_methodNamed B.named
  have hlocks := B.notSynchronized
  subst hsz
  have hD := hD0.self (sz := s.heap.size)
  generalize hAe : va_A [(h0, .inr (6, [.ref hu, .ref hs, .ref hc, .ref hp, .ref hg, .int 0, .int 0, .int 0, .int td, .int sd]))] s.heap.size = A at hD hX0 ⊢
  have hX : z_X D A s s.heap := hX0
  have hA : ∀ q : Nat, s.heap.size ≤ q → A q := fun q h => by rw [← hAe]; exact Or.inr h
  have hS : va_S A s.heap s.heap [] := va_S.rf
  have hP : va_P D vwCl [(h0, .inr (6, [.ref hu, .ref hs, .ref hc, .ref hp, .ref hg, .int 0, .int 0, .int 0, .int td, .int sd]))] s.heap := hP
  have hl := lv_entry ([.ref h0, .int a0]) (n := 4) (Nat.le_of_ble_eq_true rfl)
  rw [lg_entry_eq]
  generalize (lg_sl ([.ref h0, .int a0]) ++ List.replicate (4 - (lg_sl ([.ref h0, .int a0])).length) Slot.unset).toArray = ls at hl ⊢
  have hl : lv_has ls 4 [(0, .ref h0), (1, .int a0)] := hl
  skip
  refine lv_iconst (v := 0) hx hb dX4_unitsWithWork_0 (by decide) ?_
  refine lv_istore_n (lv' := [(2, .int 0), (0, .ref h0), (1, .int a0)]) hx hb dX4_unitsWithWork_1 rfl hl (by decide) rfl (fun ls hl => ?_)
  refine lv_iconst (v := 0) hx hb dX4_unitsWithWork_2 (by decide) ?_
  refine lv_istore_n (lv' := [(3, .int 0), (2, .int 0), (0, .ref h0), (1, .int a0)]) hx hb dX4_unitsWithWork_3 rfl hl (by decide) rfl (fun ls hl => ?_)
  refine lv_iload_n hx hb dX4_unitsWithWork_4 rfl (lv_at hl 0 rfl) ?_
  refine lv_aload_n hx hb dX4_unitsWithWork_5 rfl (lv_at hl 2 rfl) ?_
  refine va_get (D := D) (ci := 6) (v := .int 0) (C := RX4) (T := TX4) (N := 10) hx hb hts zin_X4 hown hK hP 0 rfl rfl 5 (by decide) (hts _ zw_291) (fun _ h9 => h9) rfl dX4_unitsWithWork_6 ?_
  refine lv_icmp_ge (tgt := 38) hx hb dX4_unitsWithWork_9 (by decide) (fun c_1 => ?_) (fun c_1 => absurd (by decide) c_1)
  refine lv_iload_n hx hb dX4_unitsWithWork_38 rfl (lv_at hl 1 rfl) ?_
  exact W.iret (v := 0) hx hb hr (fun t ht hW => ⟨⟨0, (), rfl, rfl, z_end hP hK hD [0] rfl rfl [] rfl ht hW.alike⟩, hS.F ht⟩) hS.2.2 dX4_unitsWithWork_39
theorem dJ6_bitCount_0f7a4_0 : decode cJ6_bitCount_0f7a4 0 = .ok (.iload_n 0, 1) := by decide +kernel
theorem dJ6_bitCount_0f7a4_1 : decode cJ6_bitCount_0f7a4 1 = .ok (.iload_n 0, 1) := by decide +kernel
theorem dJ6_bitCount_0f7a4_2 : decode cJ6_bitCount_0f7a4 2 = .ok (.iconst 1, 1) := by decide +kernel
theorem dJ6_bitCount_0f7a4_3 : decode cJ6_bitCount_0f7a4 3 = .ok (.iushr, 1) := by decide +kernel
theorem dJ6_bitCount_0f7a4_4 : decode cJ6_bitCount_0f7a4 4 = .ok (.ldc_w 265, 3) := by decide +kernel
theorem zw_382 : Cond.constant RJ6 265 1431655765 ∈ z_Ts := z_m 382 (by decide +kernel) (by decide +kernel)
theorem dJ6_bitCount_0f7a4_7 : decode cJ6_bitCount_0f7a4 7 = .ok (.iand, 1) := by decide +kernel
theorem dJ6_bitCount_0f7a4_8 : decode cJ6_bitCount_0f7a4 8 = .ok (.isub, 1) := by decide +kernel
theorem dJ6_bitCount_0f7a4_9 : decode cJ6_bitCount_0f7a4 9 = .ok (.istore_n 0, 1) := by decide +kernel
theorem dJ6_bitCount_0f7a4_10 : decode cJ6_bitCount_0f7a4 10 = .ok (.iload_n 0, 1) := by decide +kernel
theorem dJ6_bitCount_0f7a4_11 : decode cJ6_bitCount_0f7a4 11 = .ok (.ldc_w 266, 3) := by decide +kernel
theorem zw_383 : Cond.constant RJ6 266 858993459 ∈ z_Ts := z_m 383 (by decide +kernel) (by decide +kernel)
theorem dJ6_bitCount_0f7a4_14 : decode cJ6_bitCount_0f7a4 14 = .ok (.iand, 1) := by decide +kernel
theorem dJ6_bitCount_0f7a4_15 : decode cJ6_bitCount_0f7a4 15 = .ok (.iload_n 0, 1) := by decide +kernel
theorem dJ6_bitCount_0f7a4_16 : decode cJ6_bitCount_0f7a4 16 = .ok (.iconst 2, 1) := by decide +kernel
theorem dJ6_bitCount_0f7a4_17 : decode cJ6_bitCount_0f7a4 17 = .ok (.iushr, 1) := by decide +kernel
theorem dJ6_bitCount_0f7a4_18 : decode cJ6_bitCount_0f7a4 18 = .ok (.ldc_w 266, 3) := by decide +kernel
theorem dJ6_bitCount_0f7a4_21 : decode cJ6_bitCount_0f7a4 21 = .ok (.iand, 1) := by decide +kernel
theorem dJ6_bitCount_0f7a4_22 : decode cJ6_bitCount_0f7a4 22 = .ok (.iadd, 1) := by decide +kernel
theorem dJ6_bitCount_0f7a4_23 : decode cJ6_bitCount_0f7a4 23 = .ok (.istore_n 0, 1) := by decide +kernel
theorem dJ6_bitCount_0f7a4_24 : decode cJ6_bitCount_0f7a4 24 = .ok (.iload_n 0, 1) := by decide +kernel
theorem dJ6_bitCount_0f7a4_25 : decode cJ6_bitCount_0f7a4 25 = .ok (.iload_n 0, 1) := by decide +kernel
theorem dJ6_bitCount_0f7a4_26 : decode cJ6_bitCount_0f7a4 26 = .ok (.iconst 4, 1) := by decide +kernel
theorem dJ6_bitCount_0f7a4_27 : decode cJ6_bitCount_0f7a4 27 = .ok (.iushr, 1) := by decide +kernel
theorem dJ6_bitCount_0f7a4_28 : decode cJ6_bitCount_0f7a4 28 = .ok (.iadd, 1) := by decide +kernel
theorem dJ6_bitCount_0f7a4_29 : decode cJ6_bitCount_0f7a4 29 = .ok (.ldc_w 267, 3) := by decide +kernel
theorem zw_384 : Cond.constant RJ6 267 252645135 ∈ z_Ts := z_m 384 (by decide +kernel) (by decide +kernel)
theorem dJ6_bitCount_0f7a4_32 : decode cJ6_bitCount_0f7a4 32 = .ok (.iand, 1) := by decide +kernel
theorem dJ6_bitCount_0f7a4_33 : decode cJ6_bitCount_0f7a4 33 = .ok (.istore_n 0, 1) := by decide +kernel
theorem dJ6_bitCount_0f7a4_34 : decode cJ6_bitCount_0f7a4 34 = .ok (.iload_n 0, 1) := by decide +kernel
theorem dJ6_bitCount_0f7a4_35 : decode cJ6_bitCount_0f7a4 35 = .ok (.iload_n 0, 1) := by decide +kernel
theorem dJ6_bitCount_0f7a4_36 : decode cJ6_bitCount_0f7a4 36 = .ok (.bipush 8, 2) := by decide +kernel
theorem dJ6_bitCount_0f7a4_38 : decode cJ6_bitCount_0f7a4 38 = .ok (.iushr, 1) := by decide +kernel
theorem dJ6_bitCount_0f7a4_39 : decode cJ6_bitCount_0f7a4 39 = .ok (.iadd, 1) := by decide +kernel
theorem dJ6_bitCount_0f7a4_40 : decode cJ6_bitCount_0f7a4 40 = .ok (.istore_n 0, 1) := by decide +kernel
theorem dJ6_bitCount_0f7a4_41 : decode cJ6_bitCount_0f7a4 41 = .ok (.iload_n 0, 1) := by decide +kernel
theorem dJ6_bitCount_0f7a4_42 : decode cJ6_bitCount_0f7a4 42 = .ok (.iload_n 0, 1) := by decide +kernel
theorem dJ6_bitCount_0f7a4_43 : decode cJ6_bitCount_0f7a4 43 = .ok (.bipush 16, 2) := by decide +kernel
theorem dJ6_bitCount_0f7a4_45 : decode cJ6_bitCount_0f7a4 45 = .ok (.iushr, 1) := by decide +kernel
theorem dJ6_bitCount_0f7a4_46 : decode cJ6_bitCount_0f7a4 46 = .ok (.iadd, 1) := by decide +kernel
theorem dJ6_bitCount_0f7a4_47 : decode cJ6_bitCount_0f7a4 47 = .ok (.istore_n 0, 1) := by decide +kernel
theorem dJ6_bitCount_0f7a4_48 : decode cJ6_bitCount_0f7a4 48 = .ok (.iload_n 0, 1) := by decide +kernel
theorem dJ6_bitCount_0f7a4_49 : decode cJ6_bitCount_0f7a4 49 = .ok (.bipush 63, 2) := by decide +kernel
theorem dJ6_bitCount_0f7a4_51 : decode cJ6_bitCount_0f7a4 51 = .ok (.iand, 1) := by decide +kernel
theorem dJ6_bitCount_0f7a4_52 : decode cJ6_bitCount_0f7a4 52 = .ok (.ireturn, 1) := by decide +kernel
set_option maxHeartbeats 4000000 in
set_option maxRecDepth 100000 in
theorem k_bitCount (l : Launch) (D : va_G)  (sz : Nat)  : Met l yJ6_bitCount_0f7a4 [Cond.code yJ6_bitCount_0f7a4 cJ6_bitCount_0f7a4 1 (some .int)] ({ frames := 0, cells := 0, slots := 0, locals := 0 }) (z_Pc D [.int 0] [] [] sz) (va_Qi (fun (r : Int32) (_ : Unit) => r = 0) (fun _ t => z_W D [] [] (va_A [] sz) t) (va_A [] sz)) 0 0 (va_A [] sz) := by
  refine Met.ofW (cc := cJ6_bitCount_0f7a4) (maxL := 1) (ret := (some .int)) (by decide +kernel) rfl ?_
  intro p e s m args below meth c s₁ B hml hv
  obtain ⟨rfl, hsz, hP, hK, hD0, hE, hX0⟩ := hv
  have hx := B.exec
  have hb := B.bytes
  have hr := B.returns
  have hts := z_E.ts (args := [.int 0].toArray) hE
  have hown : s.vm.findClass RJ6 = some m.cls := findClass_of_methodNamed B.named
  have hlocks := B.notSynchronized
  subst hsz
  have hD := hD0.self (sz := s.heap.size)
  generalize hAe : va_A [] s.heap.size = A at hD hX0 ⊢
  have hX : z_X D A s s.heap := hX0
  have hA : ∀ q : Nat, s.heap.size ≤ q → A q := fun q h => by rw [← hAe]; exact Or.inr h
  have hS : va_S A s.heap s.heap [] := va_S.rf
  have hP : va_P D vwCl [] s.heap := hP
  have hl := lv_entry ([.int 0]) (n := 1) (Nat.le_of_ble_eq_true rfl)
  rw [lg_entry_eq]
  generalize (lg_sl ([.int 0]) ++ List.replicate (1 - (lg_sl ([.int 0])).length) Slot.unset).toArray = ls at hl ⊢
  have hl : lv_has ls 1 [(0, .int 0)] := hl
  skip
  refine lv_iload_n hx hb dJ6_bitCount_0f7a4_0 rfl (lv_at hl 0 rfl) ?_
  refine lv_iload_n hx hb dJ6_bitCount_0f7a4_1 rfl (lv_at hl 0 rfl) ?_
  refine lv_iconst (v := 1) hx hb dJ6_bitCount_0f7a4_2 (by decide) ?_
  refine lv_iushr (v := 0) hx hb dJ6_bitCount_0f7a4_3 (by decide) ?_
  refine lv_ldcw hx hb hown (hts _ zw_382) dJ6_bitCount_0f7a4_4 ?_
  refine lv_iand hx hb dJ6_bitCount_0f7a4_7 ?_
  refine lv_topi (fun x_1 ex_1 => ?_)
  obtain rfl : x_1 = 0 := ex_1.trans (by first | rfl | decide | simp)
  refine lv_isub hx hb dJ6_bitCount_0f7a4_8 ?_
  refine lv_topi (fun x_2 ex_2 => ?_)
  obtain rfl : x_2 = 0 := ex_2.trans (by first | rfl | decide | simp)
  refine lv_istore_n (lv' := [(0, .int 0)]) hx hb dJ6_bitCount_0f7a4_9 rfl hl (by decide) rfl (fun ls hl => ?_)
  refine lv_iload_n hx hb dJ6_bitCount_0f7a4_10 rfl (lv_at hl 0 rfl) ?_
  refine lv_ldcw hx hb hown (hts _ zw_383) dJ6_bitCount_0f7a4_11 ?_
  refine lv_iand hx hb dJ6_bitCount_0f7a4_14 ?_
  refine lv_topi (fun x_3 ex_3 => ?_)
  obtain rfl : x_3 = 0 := ex_3.trans (by first | rfl | decide | simp)
  refine lv_iload_n hx hb dJ6_bitCount_0f7a4_15 rfl (lv_at hl 0 rfl) ?_
  refine lv_iconst (v := 2) hx hb dJ6_bitCount_0f7a4_16 (by decide) ?_
  refine lv_iushr (v := 0) hx hb dJ6_bitCount_0f7a4_17 (by decide) ?_
  refine lv_ldcw hx hb hown (hts _ zw_383) dJ6_bitCount_0f7a4_18 ?_
  refine lv_iand hx hb dJ6_bitCount_0f7a4_21 ?_
  refine lv_topi (fun x_4 ex_4 => ?_)
  obtain rfl : x_4 = 0 := ex_4.trans (by first | rfl | decide | simp)
  refine lv_iadd hx hb dJ6_bitCount_0f7a4_22 ?_
  refine lv_topi (fun x_5 ex_5 => ?_)
  obtain rfl : x_5 = 0 := ex_5.trans (by first | rfl | decide | simp)
  refine lv_istore_n (lv' := [(0, .int 0)]) hx hb dJ6_bitCount_0f7a4_23 rfl hl (by decide) rfl (fun ls hl => ?_)
  refine lv_iload_n hx hb dJ6_bitCount_0f7a4_24 rfl (lv_at hl 0 rfl) ?_
  refine lv_iload_n hx hb dJ6_bitCount_0f7a4_25 rfl (lv_at hl 0 rfl) ?_
  refine lv_iconst (v := 4) hx hb dJ6_bitCount_0f7a4_26 (by decide) ?_
  refine lv_iushr (v := 0) hx hb dJ6_bitCount_0f7a4_27 (by decide) ?_
  refine lv_iadd hx hb dJ6_bitCount_0f7a4_28 ?_
  refine lv_topi (fun x_6 ex_6 => ?_)
  obtain rfl : x_6 = 0 := ex_6.trans (by first | rfl | decide | simp)
  refine lv_ldcw hx hb hown (hts _ zw_384) dJ6_bitCount_0f7a4_29 ?_
  refine lv_iand hx hb dJ6_bitCount_0f7a4_32 ?_
  refine lv_topi (fun x_7 ex_7 => ?_)
  obtain rfl : x_7 = 0 := ex_7.trans (by first | rfl | decide | simp)
  refine lv_istore_n (lv' := [(0, .int 0)]) hx hb dJ6_bitCount_0f7a4_33 rfl hl (by decide) rfl (fun ls hl => ?_)
  refine lv_iload_n hx hb dJ6_bitCount_0f7a4_34 rfl (lv_at hl 0 rfl) ?_
  refine lv_iload_n hx hb dJ6_bitCount_0f7a4_35 rfl (lv_at hl 0 rfl) ?_
  refine lv_bipush (v := 8) hx hb dJ6_bitCount_0f7a4_36 (by decide) ?_
  refine lv_iushr (v := 0) hx hb dJ6_bitCount_0f7a4_38 (by decide) ?_
  refine lv_iadd hx hb dJ6_bitCount_0f7a4_39 ?_
  refine lv_topi (fun x_8 ex_8 => ?_)
  obtain rfl : x_8 = 0 := ex_8.trans (by first | rfl | decide | simp)
  refine lv_istore_n (lv' := [(0, .int 0)]) hx hb dJ6_bitCount_0f7a4_40 rfl hl (by decide) rfl (fun ls hl => ?_)
  refine lv_iload_n hx hb dJ6_bitCount_0f7a4_41 rfl (lv_at hl 0 rfl) ?_
  refine lv_iload_n hx hb dJ6_bitCount_0f7a4_42 rfl (lv_at hl 0 rfl) ?_
  refine lv_bipush (v := 16) hx hb dJ6_bitCount_0f7a4_43 (by decide) ?_
  refine lv_iushr (v := 0) hx hb dJ6_bitCount_0f7a4_45 (by decide) ?_
  refine lv_iadd hx hb dJ6_bitCount_0f7a4_46 ?_
  refine lv_topi (fun x_9 ex_9 => ?_)
  obtain rfl : x_9 = 0 := ex_9.trans (by first | rfl | decide | simp)
  refine lv_istore_n (lv' := [(0, .int 0)]) hx hb dJ6_bitCount_0f7a4_47 rfl hl (by decide) rfl (fun ls hl => ?_)
  refine lv_iload_n hx hb dJ6_bitCount_0f7a4_48 rfl (lv_at hl 0 rfl) ?_
  refine lv_bipush (v := 63) hx hb dJ6_bitCount_0f7a4_49 (by decide) ?_
  refine lv_iand hx hb dJ6_bitCount_0f7a4_51 ?_
  refine lv_topi (fun x_10 ex_10 => ?_)
  obtain rfl : x_10 = 0 := ex_10.trans (by first | rfl | decide | simp)
  exact W.iret (v := 0) hx hb hr (fun t ht hW => ⟨⟨0, (), rfl, rfl, z_end hP hK hD [] rfl rfl [] rfl ht hW.alike⟩, hS.F ht⟩) hS.2.2 dJ6_bitCount_0f7a4_52
theorem dX4_needFewPlanned_0 : decode cX4_needFewPlanned 0 = .ok (.aload_n 0, 1) := by decide +kernel
theorem dX4_needFewPlanned_1 : decode cX4_needFewPlanned 1 = .ok (.bipush 112, 2) := by decide +kernel
theorem dX4_needFewPlanned_3 : decode cX4_needFewPlanned 3 = .ok (.invokevirtual 119, 3) := by decide +kernel
theorem zw_372 : Cond.methodLink RX4 119 yX4_unitsWithWork ∈ z_Ts := z_m 372 (by decide +kernel) (by decide +kernel)
theorem zw_374 : Cond.instanceMethod yX4_unitsWithWork ∈ z_Ts := z_m 374 (by decide +kernel) (by decide +kernel)
theorem zw_8 : Cond.selects RX4 yX4_unitsWithWork yX4_unitsWithWork ∈ z_Ts := z_m 8 (by decide +kernel) (by decide +kernel)
theorem zw_375 : Cond.code yX4_unitsWithWork cX4_unitsWithWork 4 (some .int) ∈ z_Ts := z_m 375 (by decide +kernel) (by decide +kernel)
theorem dX4_needFewPlanned_6 : decode cX4_needFewPlanned 6 = .ok (.invokestatic 102, 3) := by decide +kernel
theorem zw_379 : Cond.methodLink RX4 102 yJ6_bitCount_0f7a4 ∈ z_Ts := z_m 379 (by decide +kernel) (by decide +kernel)
theorem zw_112 : Cond.initialized RJ6 ∈ z_Ts := z_m 112 (by decide +kernel) (by decide +kernel)
theorem zw_381 : Cond.code yJ6_bitCount_0f7a4 cJ6_bitCount_0f7a4 1 (some .int) ∈ z_Ts := z_m 381 (by decide +kernel) (by decide +kernel)
theorem zw_380 : Cond.static yJ6_bitCount_0f7a4 ∈ z_Ts := z_m 380 (by decide +kernel) (by decide +kernel)
theorem dX4_needFewPlanned_9 : decode cX4_needFewPlanned 9 = .ok (.iconst 5, 1) := by decide +kernel
theorem dX4_needFewPlanned_10 : decode cX4_needFewPlanned 10 = .ok (.if_icmp .le 14, 3) := by decide +kernel
theorem dX4_needFewPlanned_24 : decode cX4_needFewPlanned 24 = .ok (.return_, 1) := by decide +kernel
set_option maxHeartbeats 4000000 in
set_option maxRecDepth 100000 in
theorem k_X4_needFewPlanned (l : Launch) (D : va_G) (h0 : Nat) (hu : Nat) (hs : Nat) (hc : Nat) (hp : Nat) (hg : Nat) (td : Int32) (sd : Int32) (sz : Nat)  : Met l yX4_needFewPlanned [Cond.code yX4_needFewPlanned cX4_needFewPlanned 1 none] ({ frames := 1, cells := 0, slots := 0, locals := 50 }) (z_Pc D [.ref h0] [(h0, .inr (6, [.ref hu, .ref hs, .ref hc, .ref hp, .ref hg, .int 0, .int 0, .int 0, .int td, .int sd]))] [] sz) (va_Qv (fun _ : Unit => True) (fun _ t => z_W D [(h0, .inr (6, [.ref hu, .ref hs, .ref hc, .ref hp, .ref hg, .int 0, .int 0, .int 0, .int td, .int sd]))] [] (va_A [(h0, .inr (6, [.ref hu, .ref hs, .ref hc, .ref hp, .ref hg, .int 0, .int 0, .int 0, .int td, .int sd]))] sz) t) (va_A [(h0, .inr (6, [.ref hu, .ref hs, .ref hc, .ref hp, .ref hg, .int 0, .int 0, .int 0, .int td, .int sd]))] sz)) 0 0 (va_A [(h0, .inr (6, [.ref hu, .ref hs, .ref hc, .ref hp, .ref hg, .int 0, .int 0, .int 0, .int td, .int sd]))] sz) := by
  refine Met.ofW (cc := cX4_needFewPlanned) (maxL := 1) (ret := none) (by decide +kernel) rfl ?_
  intro p e s m args below meth c s₁ B hml hv
  obtain ⟨rfl, hsz, hP, hK, hD0, hE, hX0⟩ := hv
  have hx := B.exec
  have hb := B.bytes
  have hr := B.returns
  have hts := z_E.ts (args := [.ref h0].toArray) hE
  have hown : s.vm.findClass RX4 = some m.cls := findClass_of_methodNamed B.named
  have hlocks := B.notSynchronized
  subst hsz
  have hD := hD0.self (sz := s.heap.size)
  generalize hAe : va_A [(h0, .inr (6, [.ref hu, .ref hs, .ref hc, .ref hp, .ref hg, .int 0, .int 0, .int 0, .int td, .int sd]))] s.heap.size = A at hD hX0 ⊢
  have hX : z_X D A s s.heap := hX0
  have hA : ∀ q : Nat, s.heap.size ≤ q → A q := fun q h => by rw [← hAe]; exact Or.inr h
  have hS : va_S A s.heap s.heap [] := va_S.rf
  have hP : va_P D vwCl [(h0, .inr (6, [.ref hu, .ref hs, .ref hc, .ref hp, .ref hg, .int 0, .int 0, .int 0, .int td, .int sd]))] s.heap := hP
  have hl := lv_entry ([.ref h0]) (n := 1) (Nat.le_of_ble_eq_true rfl)
  rw [lg_entry_eq]
  generalize (lg_sl ([.ref h0]) ++ List.replicate (1 - (lg_sl ([.ref h0])).length) Slot.unset).toArray = ls at hl ⊢
  have hl : lv_has ls 1 [(0, .ref h0)] := hl
  skip
  refine lv_aload_n hx hb dX4_needFewPlanned_0 rfl (lv_at hl 0 rfl) ?_
  refine lv_bipush (v := 112) hx hb dX4_needFewPlanned_1 (by decide) ?_
  obtain ⟨hb_1, hc_1⟩ := z_call (wc := [(h0, .inr (6, [.ref hu, .ref hs, .ref hc, .ref hp, .ref hg, .int 0, .int 0, .int 0, .int td, .int sd]))]) (tc := []) ([.ref h0, .int 112]) hP hK hD hS hA hE hX [0] rfl rfl [] rfl
  have hF_1 := va_free (wc := [(h0, .inr (6, [.ref hu, .ref hs, .ref hc, .ref hp, .ref hg, .int 0, .int 0, .int 0, .int td, .int sd]))]) hD hS hA [0] rfl
  refine va_calli (va_runV (As := [.int 112]) (rest := []) ⟨hx, hb, hml, hown, hts⟩ (k_X4_unitsWithWork l D h0 hu hs hc hp hg td sd 112 _ ) (z_cV 1 hE zw_372 zw_374 zw_8 zw_91 zw_375 rfl rfl rfl (by decide +kernel) ⟨(Nat.le_of_ble_eq_true rfl), (Nat.le_of_ble_eq_true rfl)⟩) ⟨hb_1, va_recv hK hP (ci := 6) (q0 := 0) rfl rfl, hc_1⟩ rfl rfl hl.1 rfl (lv_room (Nat.le_of_ble_eq_true rfl)) dX4_needFewPlanned_3 ⟨(Nat.le_of_ble_eq_true rfl), (Nat.le_of_ble_eq_true rfl)⟩) hS (fun q _ h => hF_1 q h) hF_1 (fun r_1 u_1 t_1 H1 locs ht_1 hvm_1 hw_1 hB_1 hz_1 hk_1 hS1 => ?_)
  obtain ⟨hP, hK, hD⟩ := z_back (wc := [(h0, .inr (6, [.ref hu, .ref hs, .ref hc, .ref hp, .ref hg, .int 0, .int 0, .int 0, .int td, .int sd]))]) (wr := []) (w1 := [(h0, .inr (6, [.ref hu, .ref hs, .ref hc, .ref hp, .ref hg, .int 0, .int 0, .int 0, .int td, .int sd]))]) (tr := []) hP hK hD [0] [] rfl rfl rfl (by decide) ht_1 hvm_1 hk_1 hF_1 [] rfl hB_1
  have hS := hS1
  have hP : va_P D vwCl [(h0, .inr (6, [.ref hu, .ref hs, .ref hc, .ref hp, .ref hg, .int 0, .int 0, .int 0, .int td, .int sd]))] H1 := hP
  have hD : va_D A [(h0, .inr (6, [.ref hu, .ref hs, .ref hc, .ref hp, .ref hg, .int 0, .int 0, .int 0, .int td, .int sd]))] := hD
  have hK : va_K D vwCl [] s := hK
  clear hS1
  obtain rfl : r_1 = 0 := hw_1
  obtain ⟨hb_2, hc_2⟩ := z_call (wc := []) (tc := []) ([.int 0]) hP hK hD hS hA hE hX [] rfl rfl [] rfl
  have hF_2 := va_free (wc := []) hD hS hA [] rfl
  refine va_calli (va_runS (As := [.int 0]) (rest := []) ⟨hx, hb, hml, hown, hts⟩ (k_bitCount l D  _ ) (⟨z_cB 1 hE zw_379 zw_112 zw_381 rfl rfl rfl (by decide +kernel) ⟨(Nat.le_of_ble_eq_true rfl), (Nat.le_of_ble_eq_true rfl)⟩, hE.ts _ zw_380⟩) ⟨hb_2, hc_2⟩ rfl rfl hl.1 rfl (lv_room (Nat.le_of_ble_eq_true rfl)) dX4_needFewPlanned_6 ⟨(Nat.le_of_ble_eq_true rfl), (Nat.le_of_ble_eq_true rfl)⟩) hS (fun q _ h => hF_2 q h) hF_2 (fun r_2 u_2 t_2 H1 locs ht_2 hvm_2 hw_2 hB_2 hz_2 hk_2 hS1 => ?_)
  obtain ⟨hP, hK, hD⟩ := z_back (wc := []) (wr := [(h0, .inr (6, [.ref hu, .ref hs, .ref hc, .ref hp, .ref hg, .int 0, .int 0, .int 0, .int td, .int sd]))]) (w1 := []) (tr := []) hP hK hD [] [0] rfl rfl rfl (by decide) ht_2 hvm_2 hk_2 hF_2 [] rfl hB_2
  have hS := hS1
  have hP : va_P D vwCl [(h0, .inr (6, [.ref hu, .ref hs, .ref hc, .ref hp, .ref hg, .int 0, .int 0, .int 0, .int td, .int sd]))] H1 := hP
  have hD : va_D A [(h0, .inr (6, [.ref hu, .ref hs, .ref hc, .ref hp, .ref hg, .int 0, .int 0, .int 0, .int td, .int sd]))] := hD
  have hK : va_K D vwCl [] s := hK
  clear hS1
  obtain rfl : r_2 = 0 := hw_2
  refine lv_iconst (v := 5) hx hb dX4_needFewPlanned_9 (by decide) ?_
  refine lv_icmp_le (tgt := 24) hx hb dX4_needFewPlanned_10 (by decide) (fun c_3 => ?_) (fun c_3 => absurd (by decide) c_3)
  exact W.vret hx hb hr (fun t ht hW => ⟨⟨(), rfl, trivial, z_end hP hK hD [0] rfl rfl [] rfl ht hW.alike⟩, hS.F ht⟩) hS.2.2 dX4_needFewPlanned_24
theorem dX4_areWorksSound_0 : decode cX4_areWorksSound 0 = .ok (.aload_n 0, 1) := by decide +kernel
theorem dX4_areWorksSound_1 : decode cX4_areWorksSound 1 = .ok (.bipush 119, 2) := by decide +kernel
theorem dX4_areWorksSound_3 : decode cX4_areWorksSound 3 = .ok (.invokevirtual 119, 3) := by decide +kernel
theorem dX4_areWorksSound_6 : decode cX4_areWorksSound 6 = .ok (.istore_n 1, 1) := by decide +kernel
theorem dX4_areWorksSound_7 : decode cX4_areWorksSound 7 = .ok (.aload_n 0, 1) := by decide +kernel
theorem dX4_areWorksSound_8 : decode cX4_areWorksSound 8 = .ok (.bipush 100, 2) := by decide +kernel
theorem dX4_areWorksSound_10 : decode cX4_areWorksSound 10 = .ok (.invokevirtual 119, 3) := by decide +kernel
theorem dX4_areWorksSound_13 : decode cX4_areWorksSound 13 = .ok (.iconst (-1), 1) := by decide +kernel
theorem dX4_areWorksSound_14 : decode cX4_areWorksSound 14 = .ok (.ixor, 1) := by decide +kernel
theorem dX4_areWorksSound_15 : decode cX4_areWorksSound 15 = .ok (.istore_n 2, 1) := by decide +kernel
theorem dX4_areWorksSound_16 : decode cX4_areWorksSound 16 = .ok (.iload_n 1, 1) := by decide +kernel
theorem dX4_areWorksSound_17 : decode cX4_areWorksSound 17 = .ok (.invokestatic 102, 3) := by decide +kernel
theorem dX4_areWorksSound_20 : decode cX4_areWorksSound 20 = .ok (.iconst 2, 1) := by decide +kernel
theorem dX4_areWorksSound_21 : decode cX4_areWorksSound 21 = .ok (.if_icmp .le 5, 3) := by decide +kernel
theorem dX4_areWorksSound_26 : decode cX4_areWorksSound 26 = .ok (.iconst 0, 1) := by decide +kernel
theorem dX4_areWorksSound_27 : decode cX4_areWorksSound 27 = .ok (.istore_n 3, 1) := by decide +kernel
theorem dX4_areWorksSound_28 : decode cX4_areWorksSound 28 = .ok (.iload_n 3, 1) := by decide +kernel
theorem dX4_areWorksSound_29 : decode cX4_areWorksSound 29 = .ok (.aload_n 0, 1) := by decide +kernel
theorem dX4_areWorksSound_30 : decode cX4_areWorksSound 30 = .ok (.getfield 38, 3) := by decide +kernel
theorem dX4_areWorksSound_33 : decode cX4_areWorksSound 33 = .ok (.if_icmp .ge 51, 3) := by decide +kernel
theorem dX4_areWorksSound_84 : decode cX4_areWorksSound 84 = .ok (.iconst 1, 1) := by decide +kernel
theorem dX4_areWorksSound_85 : decode cX4_areWorksSound 85 = .ok (.ireturn, 1) := by decide +kernel
set_option maxHeartbeats 4000000 in
set_option maxRecDepth 100000 in
theorem k_X4_areWorksSound (l : Launch) (D : va_G) (h0 : Nat) (hu : Nat) (hs : Nat) (hc : Nat) (hp : Nat) (hg : Nat) (td : Int32) (sd : Int32) (sz : Nat)  : Met l yX4_areWorksSound [Cond.code yX4_areWorksSound cX4_areWorksSound 5 (some .boolean)] ({ frames := 1, cells := 0, slots := 0, locals := 50 }) (z_Pc D [.ref h0] [(h0, .inr (6, [.ref hu, .ref hs, .ref hc, .ref hp, .ref hg, .int 0, .int 0, .int 0, .int td, .int sd]))] [] sz) (va_Qi (fun (r : Int32) (_ : Unit) => r = 1) (fun _ t => z_W D [(h0, .inr (6, [.ref hu, .ref hs, .ref hc, .ref hp, .ref hg, .int 0, .int 0, .int 0, .int td, .int sd]))] [] (va_A [(h0, .inr (6, [.ref hu, .ref hs, .ref hc, .ref hp, .ref hg, .int 0, .int 0, .int 0, .int td, .int sd]))] sz) t) (va_A [(h0, .inr (6, [.ref hu, .ref hs, .ref hc, .ref hp, .ref hg, .int 0, .int 0, .int 0, .int td, .int sd]))] sz)) 0 0 (va_A [(h0, .inr (6, [.ref hu, .ref hs, .ref hc, .ref hp, .ref hg, .int 0, .int 0, .int 0, .int td, .int sd]))] sz) := by
  refine Met.ofW (cc := cX4_areWorksSound) (maxL := 5) (ret := (some .boolean)) (by decide +kernel) rfl ?_
  intro p e s m args below meth c s₁ B hml hv
  obtain ⟨rfl, hsz, hP, hK, hD0, hE, hX0⟩ := hv
  have hx := B.exec
  have hb := B.bytes
  have hr := B.returns
  have hts := z_E.ts (args := [.ref h0].toArray) hE
  have hown : s.vm.findClass RX4 = some m.cls := findClass_of_methodNamed B.named
  have hlocks := B.notSynchronized
  subst hsz
  have hD := hD0.self (sz := s.heap.size)
  generalize hAe : va_A [(h0, .inr (6, [.ref hu, .ref hs, .ref hc, .ref hp, .ref hg, .int 0, .int 0, .int 0, .int td, .int sd]))] s.heap.size = A at hD hX0 ⊢
  have hX : z_X D A s s.heap := hX0
  have hA : ∀ q : Nat, s.heap.size ≤ q → A q := fun q h => by rw [← hAe]; exact Or.inr h
  have hS : va_S A s.heap s.heap [] := va_S.rf
  have hP : va_P D vwCl [(h0, .inr (6, [.ref hu, .ref hs, .ref hc, .ref hp, .ref hg, .int 0, .int 0, .int 0, .int td, .int sd]))] s.heap := hP
  have hl := lv_entry ([.ref h0]) (n := 5) (Nat.le_of_ble_eq_true rfl)
  rw [lg_entry_eq]
  generalize (lg_sl ([.ref h0]) ++ List.replicate (5 - (lg_sl ([.ref h0])).length) Slot.unset).toArray = ls at hl ⊢
  have hl : lv_has ls 5 [(0, .ref h0)] := hl
  skip
  refine lv_aload_n hx hb dX4_areWorksSound_0 rfl (lv_at hl 0 rfl) ?_
  refine lv_bipush (v := 119) hx hb dX4_areWorksSound_1 (by decide) ?_
  obtain ⟨hb_1, hc_1⟩ := z_call (wc := [(h0, .inr (6, [.ref hu, .ref hs, .ref hc, .ref hp, .ref hg, .int 0, .int 0, .int 0, .int td, .int sd]))]) (tc := []) ([.ref h0, .int 119]) hP hK hD hS hA hE hX [0] rfl rfl [] rfl
  have hF_1 := va_free (wc := [(h0, .inr (6, [.ref hu, .ref hs, .ref hc, .ref hp, .ref hg, .int 0, .int 0, .int 0, .int td, .int sd]))]) hD hS hA [0] rfl
  refine va_calli (va_runV (As := [.int 119]) (rest := []) ⟨hx, hb, hml, hown, hts⟩ (k_X4_unitsWithWork l D h0 hu hs hc hp hg td sd 119 _ ) (z_cV 1 hE zw_372 zw_374 zw_8 zw_91 zw_375 rfl rfl rfl (by decide +kernel) ⟨(Nat.le_of_ble_eq_true rfl), (Nat.le_of_ble_eq_true rfl)⟩) ⟨hb_1, va_recv hK hP (ci := 6) (q0 := 0) rfl rfl, hc_1⟩ rfl rfl hl.1 rfl (lv_room (Nat.le_of_ble_eq_true rfl)) dX4_areWorksSound_3 ⟨(Nat.le_of_ble_eq_true rfl), (Nat.le_of_ble_eq_true rfl)⟩) hS (fun q _ h => hF_1 q h) hF_1 (fun r_1 u_1 t_1 H1 locs ht_1 hvm_1 hw_1 hB_1 hz_1 hk_1 hS1 => ?_)
  obtain ⟨hP, hK, hD⟩ := z_back (wc := [(h0, .inr (6, [.ref hu, .ref hs, .ref hc, .ref hp, .ref hg, .int 0, .int 0, .int 0, .int td, .int sd]))]) (wr := []) (w1 := [(h0, .inr (6, [.ref hu, .ref hs, .ref hc, .ref hp, .ref hg, .int 0, .int 0, .int 0, .int td, .int sd]))]) (tr := []) hP hK hD [0] [] rfl rfl rfl (by decide) ht_1 hvm_1 hk_1 hF_1 [] rfl hB_1
  have hS := hS1
  have hP : va_P D vwCl [(h0, .inr (6, [.ref hu, .ref hs, .ref hc, .ref hp, .ref hg, .int 0, .int 0, .int 0, .int td, .int sd]))] H1 := hP
  have hD : va_D A [(h0, .inr (6, [.ref hu, .ref hs, .ref hc, .ref hp, .ref hg, .int 0, .int 0, .int 0, .int td, .int sd]))] := hD
  have hK : va_K D vwCl [] s := hK
  clear hS1
  obtain rfl : r_1 = 0 := hw_1
  refine lv_istore_n (lv' := [(1, .int 0), (0, .ref h0)]) hx hb dX4_areWorksSound_6 rfl hl (by decide) rfl (fun ls hl => ?_)
  refine lv_aload_n hx hb dX4_areWorksSound_7 rfl (lv_at hl 1 rfl) ?_
  refine lv_bipush (v := 100) hx hb dX4_areWorksSound_8 (by decide) ?_
  obtain ⟨hb_2, hc_2⟩ := z_call (wc := [(h0, .inr (6, [.ref hu, .ref hs, .ref hc, .ref hp, .ref hg, .int 0, .int 0, .int 0, .int td, .int sd]))]) (tc := []) ([.ref h0, .int 100]) hP hK hD hS hA hE hX [0] rfl rfl [] rfl
  have hF_2 := va_free (wc := [(h0, .inr (6, [.ref hu, .ref hs, .ref hc, .ref hp, .ref hg, .int 0, .int 0, .int 0, .int td, .int sd]))]) hD hS hA [0] rfl
  refine va_calli (va_runV (As := [.int 100]) (rest := []) ⟨hx, hb, hml, hown, hts⟩ (k_X4_unitsWithWork l D h0 hu hs hc hp hg td sd 100 _ ) (z_cV 1 hE zw_372 zw_374 zw_8 zw_91 zw_375 rfl rfl rfl (by decide +kernel) ⟨(Nat.le_of_ble_eq_true rfl), (Nat.le_of_ble_eq_true rfl)⟩) ⟨hb_2, va_recv hK hP (ci := 6) (q0 := 0) rfl rfl, hc_2⟩ rfl rfl hl.1 rfl (lv_room (Nat.le_of_ble_eq_true rfl)) dX4_areWorksSound_10 ⟨(Nat.le_of_ble_eq_true rfl), (Nat.le_of_ble_eq_true rfl)⟩) hS (fun q _ h => hF_2 q h) hF_2 (fun r_2 u_2 t_2 H1 locs ht_2 hvm_2 hw_2 hB_2 hz_2 hk_2 hS1 => ?_)
  obtain ⟨hP, hK, hD⟩ := z_back (wc := [(h0, .inr (6, [.ref hu, .ref hs, .ref hc, .ref hp, .ref hg, .int 0, .int 0, .int 0, .int td, .int sd]))]) (wr := []) (w1 := [(h0, .inr (6, [.ref hu, .ref hs, .ref hc, .ref hp, .ref hg, .int 0, .int 0, .int 0, .int td, .int sd]))]) (tr := []) hP hK hD [0] [] rfl rfl rfl (by decide) ht_2 hvm_2 hk_2 hF_2 [] rfl hB_2
  have hS := hS1
  have hP : va_P D vwCl [(h0, .inr (6, [.ref hu, .ref hs, .ref hc, .ref hp, .ref hg, .int 0, .int 0, .int 0, .int td, .int sd]))] H1 := hP
  have hD : va_D A [(h0, .inr (6, [.ref hu, .ref hs, .ref hc, .ref hp, .ref hg, .int 0, .int 0, .int 0, .int td, .int sd]))] := hD
  have hK : va_K D vwCl [] s := hK
  clear hS1
  obtain rfl : r_2 = 0 := hw_2
  refine lv_iconst (v := -1) hx hb dX4_areWorksSound_13 (by decide) ?_
  refine lv_ixor hx hb dX4_areWorksSound_14 ?_
  refine lv_topi (fun x_3 ex_3 => ?_)
  obtain rfl : x_3 = (-1) := ex_3.trans (by first | rfl | decide | simp)
  refine lv_istore_n (lv' := [(2, .int (-1)), (1, .int 0), (0, .ref h0)]) hx hb dX4_areWorksSound_15 rfl hl (by decide) rfl (fun ls hl => ?_)
  refine lv_iload_n hx hb dX4_areWorksSound_16 rfl (lv_at hl 1 rfl) ?_
  obtain ⟨hb_4, hc_4⟩ := z_call (wc := []) (tc := []) ([.int 0]) hP hK hD hS hA hE hX [] rfl rfl [] rfl
  have hF_4 := va_free (wc := []) hD hS hA [] rfl
  refine va_calli (va_runS (As := [.int 0]) (rest := []) ⟨hx, hb, hml, hown, hts⟩ (k_bitCount l D  _ ) (⟨z_cB 1 hE zw_379 zw_112 zw_381 rfl rfl rfl (by decide +kernel) ⟨(Nat.le_of_ble_eq_true rfl), (Nat.le_of_ble_eq_true rfl)⟩, hE.ts _ zw_380⟩) ⟨hb_4, hc_4⟩ rfl rfl hl.1 rfl (lv_room (Nat.le_of_ble_eq_true rfl)) dX4_areWorksSound_17 ⟨(Nat.le_of_ble_eq_true rfl), (Nat.le_of_ble_eq_true rfl)⟩) hS (fun q _ h => hF_4 q h) hF_4 (fun r_4 u_4 t_4 H1 locs ht_4 hvm_4 hw_4 hB_4 hz_4 hk_4 hS1 => ?_)
  obtain ⟨hP, hK, hD⟩ := z_back (wc := []) (wr := [(h0, .inr (6, [.ref hu, .ref hs, .ref hc, .ref hp, .ref hg, .int 0, .int 0, .int 0, .int td, .int sd]))]) (w1 := []) (tr := []) hP hK hD [] [0] rfl rfl rfl (by decide) ht_4 hvm_4 hk_4 hF_4 [] rfl hB_4
  have hS := hS1
  have hP : va_P D vwCl [(h0, .inr (6, [.ref hu, .ref hs, .ref hc, .ref hp, .ref hg, .int 0, .int 0, .int 0, .int td, .int sd]))] H1 := hP
  have hD : va_D A [(h0, .inr (6, [.ref hu, .ref hs, .ref hc, .ref hp, .ref hg, .int 0, .int 0, .int 0, .int td, .int sd]))] := hD
  have hK : va_K D vwCl [] s := hK
  clear hS1
  obtain rfl : r_4 = 0 := hw_4
  refine lv_iconst (v := 2) hx hb dX4_areWorksSound_20 (by decide) ?_
  refine lv_icmp_le (tgt := 26) hx hb dX4_areWorksSound_21 (by decide) (fun c_5 => ?_) (fun c_5 => absurd (by decide) c_5)
  refine lv_iconst (v := 0) hx hb dX4_areWorksSound_26 (by decide) ?_
  refine lv_istore_n (lv' := [(3, .int 0), (2, .int (-1)), (1, .int 0), (0, .ref h0)]) hx hb dX4_areWorksSound_27 rfl hl (by decide) rfl (fun ls hl => ?_)
  refine lv_iload_n hx hb dX4_areWorksSound_28 rfl (lv_at hl 0 rfl) ?_
  refine lv_aload_n hx hb dX4_areWorksSound_29 rfl (lv_at hl 3 rfl) ?_
  refine va_get (D := D) (ci := 6) (v := .int 0) (C := RX4) (T := TX4) (N := 10) hx hb hts zin_X4 hown hK hP 0 rfl rfl 5 (by decide) (hts _ zw_291) (fun _ h9 => h9) rfl dX4_areWorksSound_30 ?_
  refine lv_icmp_ge (tgt := 84) hx hb dX4_areWorksSound_33 (by decide) (fun c_6 => ?_) (fun c_6 => absurd (by decide) c_6)
  refine lv_iconst (v := 1) hx hb dX4_areWorksSound_84 (by decide) ?_
  exact W.zret (v := 1) hx hb hr (by first | rfl | decide) (fun t ht hW => ⟨⟨1, (), rfl, rfl, z_end hP hK hD [0] rfl rfl [] rfl ht hW.alike⟩, hS.F ht⟩) hS.2.2 dX4_areWorksSound_85
theorem dX4_areUnitsSound_0 : decode cX4_areUnitsSound 0 = .ok (.iconst 0, 1) := by decide +kernel
theorem dX4_areUnitsSound_1 : decode cX4_areUnitsSound 1 = .ok (.istore_n 1, 1) := by decide +kernel
theorem dX4_areUnitsSound_2 : decode cX4_areUnitsSound 2 = .ok (.iload_n 1, 1) := by decide +kernel
theorem dX4_areUnitsSound_3 : decode cX4_areUnitsSound 3 = .ok (.aload_n 0, 1) := by decide +kernel
theorem dX4_areUnitsSound_4 : decode cX4_areUnitsSound 4 = .ok (.getfield 38, 3) := by decide +kernel
theorem dX4_areUnitsSound_7 : decode cX4_areUnitsSound 7 = .ok (.if_icmp .ge 39, 3) := by decide +kernel
theorem dX4_areUnitsSound_46 : decode cX4_areUnitsSound 46 = .ok (.iconst 1, 1) := by decide +kernel
theorem dX4_areUnitsSound_47 : decode cX4_areUnitsSound 47 = .ok (.ireturn, 1) := by decide +kernel
set_option maxHeartbeats 4000000 in
set_option maxRecDepth 100000 in
theorem k_X4_areUnitsSound (l : Launch) (D : va_G) (h0 : Nat) (hu : Nat) (hs : Nat) (hc : Nat) (hp : Nat) (hg : Nat) (td : Int32) (sd : Int32) (sz : Nat)  : Met l yX4_areUnitsSound [Cond.code yX4_areUnitsSound cX4_areUnitsSound 3 (some .boolean)] ({ frames := 0, cells := 0, slots := 0, locals := 0 }) (z_Pc D [.ref h0] [(h0, .inr (6, [.ref hu, .ref hs, .ref hc, .ref hp, .ref hg, .int 0, .int 0, .int 0, .int td, .int sd]))] [] sz) (va_Qi (fun (r : Int32) (_ : Unit) => r = 1) (fun _ t => z_W D [(h0, .inr (6, [.ref hu, .ref hs, .ref hc, .ref hp, .ref hg, .int 0, .int 0, .int 0, .int td, .int sd]))] [] (va_A [(h0, .inr (6, [.ref hu, .ref hs, .ref hc, .ref hp, .ref hg, .int 0, .int 0, .int 0, .int td, .int sd]))] sz) t) (va_A [(h0, .inr (6, [.ref hu, .ref hs, .ref hc, .ref hp, .ref hg, .int 0, .int 0, .int 0, .int td, .int sd]))] sz)) 0 0 (va_A [(h0, .inr (6, [.ref hu, .ref hs, .ref hc, .ref hp, .ref hg, .int 0, .int 0, .int 0, .int td, .int sd]))] sz) := by
  refine Met.ofW (cc := cX4_areUnitsSound) (maxL := 3) (ret := (some .boolean)) (by decide +kernel) rfl ?_
  intro p e s m args below meth c s₁ B hml hv
  obtain ⟨rfl, hsz, hP, hK, hD0, hE, hX0⟩ := hv
  have hx := B.exec
  have hb := B.bytes
  have hr := B.returns
  have hts := z_E.ts (args := [.ref h0].toArray) hE
  have hown : s.vm.findClass RX4 = some m.cls := findClass_of_methodNamed B.named
  have hlocks := B.notSynchronized
  subst hsz
  have hD := hD0.self (sz := s.heap.size)
  generalize hAe : va_A [(h0, .inr (6, [.ref hu, .ref hs, .ref hc, .ref hp, .ref hg, .int 0, .int 0, .int 0, .int td, .int sd]))] s.heap.size = A at hD hX0 ⊢
  have hX : z_X D A s s.heap := hX0
  have hA : ∀ q : Nat, s.heap.size ≤ q → A q := fun q h => by rw [← hAe]; exact Or.inr h
  have hS : va_S A s.heap s.heap [] := va_S.rf
  have hP : va_P D vwCl [(h0, .inr (6, [.ref hu, .ref hs, .ref hc, .ref hp, .ref hg, .int 0, .int 0, .int 0, .int td, .int sd]))] s.heap := hP
  have hl := lv_entry ([.ref h0]) (n := 3) (Nat.le_of_ble_eq_true rfl)
  rw [lg_entry_eq]
  generalize (lg_sl ([.ref h0]) ++ List.replicate (3 - (lg_sl ([.ref h0])).length) Slot.unset).toArray = ls at hl ⊢
  have hl : lv_has ls 3 [(0, .ref h0)] := hl
  skip
  refine lv_iconst (v := 0) hx hb dX4_areUnitsSound_0 (by decide) ?_
  refine lv_istore_n (lv' := [(1, .int 0), (0, .ref h0)]) hx hb dX4_areUnitsSound_1 rfl hl (by decide) rfl (fun ls hl => ?_)
  refine lv_iload_n hx hb dX4_areUnitsSound_2 rfl (lv_at hl 0 rfl) ?_
  refine lv_aload_n hx hb dX4_areUnitsSound_3 rfl (lv_at hl 1 rfl) ?_
  refine va_get (D := D) (ci := 6) (v := .int 0) (C := RX4) (T := TX4) (N := 10) hx hb hts zin_X4 hown hK hP 0 rfl rfl 5 (by decide) (hts _ zw_291) (fun _ h9 => h9) rfl dX4_areUnitsSound_4 ?_
  refine lv_icmp_ge (tgt := 46) hx hb dX4_areUnitsSound_7 (by decide) (fun c_1 => ?_) (fun c_1 => absurd (by decide) c_1)
  refine lv_iconst (v := 1) hx hb dX4_areUnitsSound_46 (by decide) ?_
  exact W.zret (v := 1) hx hb hr (by first | rfl | decide) (fun t ht hW => ⟨⟨1, (), rfl, rfl, z_end hP hK hD [0] rfl rfl [] rfl ht hW.alike⟩, hS.F ht⟩) hS.2.2 dX4_areUnitsSound_47
theorem dX4_areShopsSound_0 : decode cX4_areShopsSound 0 = .ok (.iconst 0, 1) := by decide +kernel
theorem dX4_areShopsSound_1 : decode cX4_areShopsSound 1 = .ok (.istore_n 1, 1) := by decide +kernel
theorem dX4_areShopsSound_2 : decode cX4_areShopsSound 2 = .ok (.iload_n 1, 1) := by decide +kernel
theorem dX4_areShopsSound_3 : decode cX4_areShopsSound 3 = .ok (.aload_n 0, 1) := by decide +kernel
theorem dX4_areShopsSound_4 : decode cX4_areShopsSound 4 = .ok (.getfield 42, 3) := by decide +kernel
theorem dX4_areShopsSound_7 : decode cX4_areShopsSound 7 = .ok (.if_icmp .ge 55, 3) := by decide +kernel
theorem dX4_areShopsSound_62 : decode cX4_areShopsSound 62 = .ok (.iconst 1, 1) := by decide +kernel
theorem dX4_areShopsSound_63 : decode cX4_areShopsSound 63 = .ok (.ireturn, 1) := by decide +kernel
set_option maxHeartbeats 4000000 in
set_option maxRecDepth 100000 in
theorem k_X4_areShopsSound (l : Launch) (D : va_G) (h0 : Nat) (hu : Nat) (hs : Nat) (hc : Nat) (hp : Nat) (hg : Nat) (td : Int32) (sd : Int32) (sz : Nat)  : Met l yX4_areShopsSound [Cond.code yX4_areShopsSound cX4_areShopsSound 5 (some .boolean)] ({ frames := 0, cells := 0, slots := 0, locals := 0 }) (z_Pc D [.ref h0] [(h0, .inr (6, [.ref hu, .ref hs, .ref hc, .ref hp, .ref hg, .int 0, .int 0, .int 0, .int td, .int sd]))] [] sz) (va_Qi (fun (r : Int32) (_ : Unit) => r = 1) (fun _ t => z_W D [(h0, .inr (6, [.ref hu, .ref hs, .ref hc, .ref hp, .ref hg, .int 0, .int 0, .int 0, .int td, .int sd]))] [] (va_A [(h0, .inr (6, [.ref hu, .ref hs, .ref hc, .ref hp, .ref hg, .int 0, .int 0, .int 0, .int td, .int sd]))] sz) t) (va_A [(h0, .inr (6, [.ref hu, .ref hs, .ref hc, .ref hp, .ref hg, .int 0, .int 0, .int 0, .int td, .int sd]))] sz)) 0 0 (va_A [(h0, .inr (6, [.ref hu, .ref hs, .ref hc, .ref hp, .ref hg, .int 0, .int 0, .int 0, .int td, .int sd]))] sz) := by
  refine Met.ofW (cc := cX4_areShopsSound) (maxL := 5) (ret := (some .boolean)) (by decide +kernel) rfl ?_
  intro p e s m args below meth c s₁ B hml hv
  obtain ⟨rfl, hsz, hP, hK, hD0, hE, hX0⟩ := hv
  have hx := B.exec
  have hb := B.bytes
  have hr := B.returns
  have hts := z_E.ts (args := [.ref h0].toArray) hE
  have hown : s.vm.findClass RX4 = some m.cls := findClass_of_methodNamed B.named
  have hlocks := B.notSynchronized
  subst hsz
  have hD := hD0.self (sz := s.heap.size)
  generalize hAe : va_A [(h0, .inr (6, [.ref hu, .ref hs, .ref hc, .ref hp, .ref hg, .int 0, .int 0, .int 0, .int td, .int sd]))] s.heap.size = A at hD hX0 ⊢
  have hX : z_X D A s s.heap := hX0
  have hA : ∀ q : Nat, s.heap.size ≤ q → A q := fun q h => by rw [← hAe]; exact Or.inr h
  have hS : va_S A s.heap s.heap [] := va_S.rf
  have hP : va_P D vwCl [(h0, .inr (6, [.ref hu, .ref hs, .ref hc, .ref hp, .ref hg, .int 0, .int 0, .int 0, .int td, .int sd]))] s.heap := hP
  have hl := lv_entry ([.ref h0]) (n := 5) (Nat.le_of_ble_eq_true rfl)
  rw [lg_entry_eq]
  generalize (lg_sl ([.ref h0]) ++ List.replicate (5 - (lg_sl ([.ref h0])).length) Slot.unset).toArray = ls at hl ⊢
  have hl : lv_has ls 5 [(0, .ref h0)] := hl
  skip
  refine lv_iconst (v := 0) hx hb dX4_areShopsSound_0 (by decide) ?_
  refine lv_istore_n (lv' := [(1, .int 0), (0, .ref h0)]) hx hb dX4_areShopsSound_1 rfl hl (by decide) rfl (fun ls hl => ?_)
  refine lv_iload_n hx hb dX4_areShopsSound_2 rfl (lv_at hl 0 rfl) ?_
  refine lv_aload_n hx hb dX4_areShopsSound_3 rfl (lv_at hl 1 rfl) ?_
  refine va_get (D := D) (ci := 6) (v := .int 0) (C := RX4) (T := TX4) (N := 10) hx hb hts zin_X4 hown hK hP 0 rfl rfl 6 (by decide) (hts _ zw_292) (fun _ h9 => h9) rfl dX4_areShopsSound_4 ?_
  refine lv_icmp_ge (tgt := 62) hx hb dX4_areShopsSound_7 (by decide) (fun c_1 => ?_) (fun c_1 => absurd (by decide) c_1)
  refine lv_iconst (v := 1) hx hb dX4_areShopsSound_62 (by decide) ?_
  exact W.zret (v := 1) hx hb hr (by first | rfl | decide) (fun t ht hW => ⟨⟨1, (), rfl, rfl, z_end hP hK hD [0] rfl rfl [] rfl ht hW.alike⟩, hS.F ht⟩) hS.2.2 dX4_areShopsSound_63
theorem dX4_areWide_0 : decode cX4_areWide 0 = .ok (.iconst 0, 1) := by decide +kernel
theorem dX4_areWide_1 : decode cX4_areWide 1 = .ok (.istore_n 1, 1) := by decide +kernel
theorem dX4_areWide_2 : decode cX4_areWide 2 = .ok (.iload_n 1, 1) := by decide +kernel
theorem dX4_areWide_3 : decode cX4_areWide 3 = .ok (.aload_n 0, 1) := by decide +kernel
theorem dX4_areWide_4 : decode cX4_areWide 4 = .ok (.getfield 38, 3) := by decide +kernel
theorem dX4_areWide_7 : decode cX4_areWide 7 = .ok (.if_icmp .ge 29, 3) := by decide +kernel
theorem dX4_areWide_36 : decode cX4_areWide 36 = .ok (.iconst 1, 1) := by decide +kernel
theorem dX4_areWide_37 : decode cX4_areWide 37 = .ok (.ireturn, 1) := by decide +kernel
set_option maxHeartbeats 4000000 in
set_option maxRecDepth 100000 in
theorem k_X4_areWide (l : Launch) (D : va_G) (h0 : Nat) (hu : Nat) (hs : Nat) (hc : Nat) (hp : Nat) (hg : Nat) (td : Int32) (sd : Int32) (sz : Nat)  : Met l yX4_areWide [Cond.code yX4_areWide cX4_areWide 2 (some .boolean)] ({ frames := 0, cells := 0, slots := 0, locals := 0 }) (z_Pc D [.ref h0] [(h0, .inr (6, [.ref hu, .ref hs, .ref hc, .ref hp, .ref hg, .int 0, .int 0, .int 0, .int td, .int sd]))] [] sz) (va_Qi (fun (r : Int32) (_ : Unit) => r = 1) (fun _ t => z_W D [(h0, .inr (6, [.ref hu, .ref hs, .ref hc, .ref hp, .ref hg, .int 0, .int 0, .int 0, .int td, .int sd]))] [] (va_A [(h0, .inr (6, [.ref hu, .ref hs, .ref hc, .ref hp, .ref hg, .int 0, .int 0, .int 0, .int td, .int sd]))] sz) t) (va_A [(h0, .inr (6, [.ref hu, .ref hs, .ref hc, .ref hp, .ref hg, .int 0, .int 0, .int 0, .int td, .int sd]))] sz)) 0 0 (va_A [(h0, .inr (6, [.ref hu, .ref hs, .ref hc, .ref hp, .ref hg, .int 0, .int 0, .int 0, .int td, .int sd]))] sz) := by
  refine Met.ofW (cc := cX4_areWide) (maxL := 2) (ret := (some .boolean)) (by decide +kernel) rfl ?_
  intro p e s m args below meth c s₁ B hml hv
  obtain ⟨rfl, hsz, hP, hK, hD0, hE, hX0⟩ := hv
  have hx := B.exec
  have hb := B.bytes
  have hr := B.returns
  have hts := z_E.ts (args := [.ref h0].toArray) hE
  have hown : s.vm.findClass RX4 = some m.cls := findClass_of_methodNamed B.named
  have hlocks := B.notSynchronized
  subst hsz
  have hD := hD0.self (sz := s.heap.size)
  generalize hAe : va_A [(h0, .inr (6, [.ref hu, .ref hs, .ref hc, .ref hp, .ref hg, .int 0, .int 0, .int 0, .int td, .int sd]))] s.heap.size = A at hD hX0 ⊢
  have hX : z_X D A s s.heap := hX0
  have hA : ∀ q : Nat, s.heap.size ≤ q → A q := fun q h => by rw [← hAe]; exact Or.inr h
  have hS : va_S A s.heap s.heap [] := va_S.rf
  have hP : va_P D vwCl [(h0, .inr (6, [.ref hu, .ref hs, .ref hc, .ref hp, .ref hg, .int 0, .int 0, .int 0, .int td, .int sd]))] s.heap := hP
  have hl := lv_entry ([.ref h0]) (n := 2) (Nat.le_of_ble_eq_true rfl)
  rw [lg_entry_eq]
  generalize (lg_sl ([.ref h0]) ++ List.replicate (2 - (lg_sl ([.ref h0])).length) Slot.unset).toArray = ls at hl ⊢
  have hl : lv_has ls 2 [(0, .ref h0)] := hl
  skip
  refine lv_iconst (v := 0) hx hb dX4_areWide_0 (by decide) ?_
  refine lv_istore_n (lv' := [(1, .int 0), (0, .ref h0)]) hx hb dX4_areWide_1 rfl hl (by decide) rfl (fun ls hl => ?_)
  refine lv_iload_n hx hb dX4_areWide_2 rfl (lv_at hl 0 rfl) ?_
  refine lv_aload_n hx hb dX4_areWide_3 rfl (lv_at hl 1 rfl) ?_
  refine va_get (D := D) (ci := 6) (v := .int 0) (C := RX4) (T := TX4) (N := 10) hx hb hts zin_X4 hown hK hP 0 rfl rfl 5 (by decide) (hts _ zw_291) (fun _ h9 => h9) rfl dX4_areWide_4 ?_
  refine lv_icmp_ge (tgt := 36) hx hb dX4_areWide_7 (by decide) (fun c_1 => ?_) (fun c_1 => absurd (by decide) c_1)
  refine lv_iconst (v := 1) hx hb dX4_areWide_36 (by decide) ?_
  exact W.zret (v := 1) hx hb hr (by first | rfl | decide) (fun t ht hW => ⟨⟨1, (), rfl, rfl, z_end hP hK hD [0] rfl rfl [] rfl ht hW.alike⟩, hS.F ht⟩) hS.2.2 dX4_areWide_37
theorem dX4_isSound_0 : decode cX4_isSound 0 = .ok (.aload_n 0, 1) := by decide +kernel
theorem dX4_isSound_1 : decode cX4_isSound 1 = .ok (.invokevirtual 325, 3) := by decide +kernel
theorem zw_368 : Cond.methodLink RX4 325 yX4_areWorksSound ∈ z_Ts := z_m 368 (by decide +kernel) (by decide +kernel)
theorem zw_370 : Cond.instanceMethod yX4_areWorksSound ∈ z_Ts := z_m 370 (by decide +kernel) (by decide +kernel)
theorem zw_7 : Cond.selects RX4 yX4_areWorksSound yX4_areWorksSound ∈ z_Ts := z_m 7 (by decide +kernel) (by decide +kernel)
theorem zw_371 : Cond.code yX4_areWorksSound cX4_areWorksSound 5 (some .boolean) ∈ z_Ts := z_m 371 (by decide +kernel) (by decide +kernel)
theorem dX4_isSound_4 : decode cX4_isSound 4 = .ok (.ifCond .eq 28, 3) := by decide +kernel
theorem dX4_isSound_7 : decode cX4_isSound 7 = .ok (.aload_n 0, 1) := by decide +kernel
theorem dX4_isSound_8 : decode cX4_isSound 8 = .ok (.invokevirtual 328, 3) := by decide +kernel
theorem zw_388 : Cond.methodLink RX4 328 yX4_areUnitsSound ∈ z_Ts := z_m 388 (by decide +kernel) (by decide +kernel)
theorem zw_390 : Cond.instanceMethod yX4_areUnitsSound ∈ z_Ts := z_m 390 (by decide +kernel) (by decide +kernel)
theorem zw_9 : Cond.selects RX4 yX4_areUnitsSound yX4_areUnitsSound ∈ z_Ts := z_m 9 (by decide +kernel) (by decide +kernel)
theorem zw_391 : Cond.code yX4_areUnitsSound cX4_areUnitsSound 3 (some .boolean) ∈ z_Ts := z_m 391 (by decide +kernel) (by decide +kernel)
theorem dX4_isSound_11 : decode cX4_isSound 11 = .ok (.ifCond .eq 21, 3) := by decide +kernel
theorem dX4_isSound_14 : decode cX4_isSound 14 = .ok (.aload_n 0, 1) := by decide +kernel
theorem dX4_isSound_15 : decode cX4_isSound 15 = .ok (.invokevirtual 331, 3) := by decide +kernel
theorem zw_397 : Cond.methodLink RX4 331 yX4_areWide ∈ z_Ts := z_m 397 (by decide +kernel) (by decide +kernel)
theorem zw_318 : Cond.instanceMethod yX4_areWide ∈ z_Ts := z_m 318 (by decide +kernel) (by decide +kernel)
theorem zw_319 : Cond.selects RX4 yX4_areWide yX4_areWide ∈ z_Ts := z_m 319 (by decide +kernel) (by decide +kernel)
theorem zw_320 : Cond.code yX4_areWide cX4_areWide 2 (some .boolean) ∈ z_Ts := z_m 320 (by decide +kernel) (by decide +kernel)
theorem dX4_isSound_18 : decode cX4_isSound 18 = .ok (.ifCond .eq 14, 3) := by decide +kernel
theorem dX4_isSound_21 : decode cX4_isSound 21 = .ok (.aload_n 0, 1) := by decide +kernel
theorem dX4_isSound_22 : decode cX4_isSound 22 = .ok (.invokevirtual 334, 3) := by decide +kernel
theorem zw_398 : Cond.methodLink RX4 334 yX4_areShopsSound ∈ z_Ts := z_m 398 (by decide +kernel) (by decide +kernel)
theorem zw_400 : Cond.instanceMethod yX4_areShopsSound ∈ z_Ts := z_m 400 (by decide +kernel) (by decide +kernel)
theorem zw_11 : Cond.selects RX4 yX4_areShopsSound yX4_areShopsSound ∈ z_Ts := z_m 11 (by decide +kernel) (by decide +kernel)
theorem zw_401 : Cond.code yX4_areShopsSound cX4_areShopsSound 5 (some .boolean) ∈ z_Ts := z_m 401 (by decide +kernel) (by decide +kernel)
theorem dX4_isSound_25 : decode cX4_isSound 25 = .ok (.ifCond .eq 7, 3) := by decide +kernel
theorem dX4_isSound_28 : decode cX4_isSound 28 = .ok (.iconst 1, 1) := by decide +kernel
theorem dX4_isSound_29 : decode cX4_isSound 29 = .ok (.goto 4, 3) := by decide +kernel
theorem dX4_isSound_33 : decode cX4_isSound 33 = .ok (.ireturn, 1) := by decide +kernel
set_option maxHeartbeats 4000000 in
set_option maxRecDepth 100000 in
theorem k_X4_isSound (l : Launch) (D : va_G) (h0 : Nat) (hu : Nat) (hs : Nat) (hc : Nat) (hp : Nat) (hg : Nat) (td : Int32) (sd : Int32) (sz : Nat)  : Met l yX4_isSound [Cond.code yX4_isSound cX4_isSound 1 (some .boolean)] ({ frames := 2, cells := 0, slots := 0, locals := 90 }) (z_Pc D [.ref h0] [(h0, .inr (6, [.ref hu, .ref hs, .ref hc, .ref hp, .ref hg, .int 0, .int 0, .int 0, .int td, .int sd]))] [] sz) (va_Qi (fun (r : Int32) (_ : Unit) => r = 1) (fun _ t => z_W D [(h0, .inr (6, [.ref hu, .ref hs, .ref hc, .ref hp, .ref hg, .int 0, .int 0, .int 0, .int td, .int sd]))] [] (va_A [(h0, .inr (6, [.ref hu, .ref hs, .ref hc, .ref hp, .ref hg, .int 0, .int 0, .int 0, .int td, .int sd]))] sz) t) (va_A [(h0, .inr (6, [.ref hu, .ref hs, .ref hc, .ref hp, .ref hg, .int 0, .int 0, .int 0, .int td, .int sd]))] sz)) 0 0 (va_A [(h0, .inr (6, [.ref hu, .ref hs, .ref hc, .ref hp, .ref hg, .int 0, .int 0, .int 0, .int td, .int sd]))] sz) := by
  refine Met.ofW (cc := cX4_isSound) (maxL := 1) (ret := (some .boolean)) (by decide +kernel) rfl ?_
  intro p e s m args below meth c s₁ B hml hv
  obtain ⟨rfl, hsz, hP, hK, hD0, hE, hX0⟩ := hv
  have hx := B.exec
  have hb := B.bytes
  have hr := B.returns
  have hts := z_E.ts (args := [.ref h0].toArray) hE
  have hown : s.vm.findClass RX4 = some m.cls := findClass_of_methodNamed B.named
  have hlocks := B.notSynchronized
  subst hsz
  have hD := hD0.self (sz := s.heap.size)
  generalize hAe : va_A [(h0, .inr (6, [.ref hu, .ref hs, .ref hc, .ref hp, .ref hg, .int 0, .int 0, .int 0, .int td, .int sd]))] s.heap.size = A at hD hX0 ⊢
  have hX : z_X D A s s.heap := hX0
  have hA : ∀ q : Nat, s.heap.size ≤ q → A q := fun q h => by rw [← hAe]; exact Or.inr h
  have hS : va_S A s.heap s.heap [] := va_S.rf
  have hP : va_P D vwCl [(h0, .inr (6, [.ref hu, .ref hs, .ref hc, .ref hp, .ref hg, .int 0, .int 0, .int 0, .int td, .int sd]))] s.heap := hP
  have hl := lv_entry ([.ref h0]) (n := 1) (Nat.le_of_ble_eq_true rfl)
  rw [lg_entry_eq]
  generalize (lg_sl ([.ref h0]) ++ List.replicate (1 - (lg_sl ([.ref h0])).length) Slot.unset).toArray = ls at hl ⊢
  have hl : lv_has ls 1 [(0, .ref h0)] := hl
  skip
  refine lv_aload_n hx hb dX4_isSound_0 rfl (lv_at hl 0 rfl) ?_
  obtain ⟨hb_1, hc_1⟩ := z_call (wc := [(h0, .inr (6, [.ref hu, .ref hs, .ref hc, .ref hp, .ref hg, .int 0, .int 0, .int 0, .int td, .int sd]))]) (tc := []) ([.ref h0]) hP hK hD hS hA hE hX [0] rfl rfl [] rfl
  have hF_1 := va_free (wc := [(h0, .inr (6, [.ref hu, .ref hs, .ref hc, .ref hp, .ref hg, .int 0, .int 0, .int 0, .int td, .int sd]))]) hD hS hA [0] rfl
  refine va_calli (va_runV (As := []) (rest := []) ⟨hx, hb, hml, hown, hts⟩ (k_X4_areWorksSound l D h0 hu hs hc hp hg td sd _ ) (z_cV 0 hE zw_368 zw_370 zw_7 zw_91 zw_371 rfl rfl rfl (by decide +kernel) ⟨(Nat.le_of_ble_eq_true rfl), (Nat.le_of_ble_eq_true rfl)⟩) ⟨hb_1, va_recv hK hP (ci := 6) (q0 := 0) rfl rfl, hc_1⟩ rfl rfl hl.1 rfl (lv_room (Nat.le_of_ble_eq_true rfl)) dX4_isSound_1 ⟨(Nat.le_of_ble_eq_true rfl), (Nat.le_of_ble_eq_true rfl)⟩) hS (fun q _ h => hF_1 q h) hF_1 (fun r_1 u_1 t_1 H1 locs ht_1 hvm_1 hw_1 hB_1 hz_1 hk_1 hS1 => ?_)
  obtain ⟨hP, hK, hD⟩ := z_back (wc := [(h0, .inr (6, [.ref hu, .ref hs, .ref hc, .ref hp, .ref hg, .int 0, .int 0, .int 0, .int td, .int sd]))]) (wr := []) (w1 := [(h0, .inr (6, [.ref hu, .ref hs, .ref hc, .ref hp, .ref hg, .int 0, .int 0, .int 0, .int td, .int sd]))]) (tr := []) hP hK hD [0] [] rfl rfl rfl (by decide) ht_1 hvm_1 hk_1 hF_1 [] rfl hB_1
  have hS := hS1
  have hP : va_P D vwCl [(h0, .inr (6, [.ref hu, .ref hs, .ref hc, .ref hp, .ref hg, .int 0, .int 0, .int 0, .int td, .int sd]))] H1 := hP
  have hD : va_D A [(h0, .inr (6, [.ref hu, .ref hs, .ref hc, .ref hp, .ref hg, .int 0, .int 0, .int 0, .int td, .int sd]))] := hD
  have hK : va_K D vwCl [] s := hK
  clear hS1
  obtain rfl : r_1 = 1 := hw_1
  refine lv_if_eq (tgt := 32) hx hb dX4_isSound_4 (by decide) (fun c_2 => absurd c_2 (by decide)) (fun c_2 => ?_)
  refine lv_aload_n hx hb dX4_isSound_7 rfl (lv_at hl 0 rfl) ?_
  obtain ⟨hb_3, hc_3⟩ := z_call (wc := [(h0, .inr (6, [.ref hu, .ref hs, .ref hc, .ref hp, .ref hg, .int 0, .int 0, .int 0, .int td, .int sd]))]) (tc := []) ([.ref h0]) hP hK hD hS hA hE hX [0] rfl rfl [] rfl
  have hF_3 := va_free (wc := [(h0, .inr (6, [.ref hu, .ref hs, .ref hc, .ref hp, .ref hg, .int 0, .int 0, .int 0, .int td, .int sd]))]) hD hS hA [0] rfl
  refine va_calli (va_runV (As := []) (rest := []) ⟨hx, hb, hml, hown, hts⟩ (k_X4_areUnitsSound l D h0 hu hs hc hp hg td sd _ ) (z_cV 0 hE zw_388 zw_390 zw_9 zw_91 zw_391 rfl rfl rfl (by decide +kernel) ⟨(Nat.le_of_ble_eq_true rfl), (Nat.le_of_ble_eq_true rfl)⟩) ⟨hb_3, va_recv hK hP (ci := 6) (q0 := 0) rfl rfl, hc_3⟩ rfl rfl hl.1 rfl (lv_room (Nat.le_of_ble_eq_true rfl)) dX4_isSound_8 ⟨(Nat.le_of_ble_eq_true rfl), (Nat.le_of_ble_eq_true rfl)⟩) hS (fun q _ h => hF_3 q h) hF_3 (fun r_3 u_3 t_3 H1 locs ht_3 hvm_3 hw_3 hB_3 hz_3 hk_3 hS1 => ?_)
  obtain ⟨hP, hK, hD⟩ := z_back (wc := [(h0, .inr (6, [.ref hu, .ref hs, .ref hc, .ref hp, .ref hg, .int 0, .int 0, .int 0, .int td, .int sd]))]) (wr := []) (w1 := [(h0, .inr (6, [.ref hu, .ref hs, .ref hc, .ref hp, .ref hg, .int 0, .int 0, .int 0, .int td, .int sd]))]) (tr := []) hP hK hD [0] [] rfl rfl rfl (by decide) ht_3 hvm_3 hk_3 hF_3 [] rfl hB_3
  have hS := hS1
  have hP : va_P D vwCl [(h0, .inr (6, [.ref hu, .ref hs, .ref hc, .ref hp, .ref hg, .int 0, .int 0, .int 0, .int td, .int sd]))] H1 := hP
  have hD : va_D A [(h0, .inr (6, [.ref hu, .ref hs, .ref hc, .ref hp, .ref hg, .int 0, .int 0, .int 0, .int td, .int sd]))] := hD
  have hK : va_K D vwCl [] s := hK
  clear hS1
  obtain rfl : r_3 = 1 := hw_3
  refine lv_if_eq (tgt := 32) hx hb dX4_isSound_11 (by decide) (fun c_4 => absurd c_4 (by decide)) (fun c_4 => ?_)
  refine lv_aload_n hx hb dX4_isSound_14 rfl (lv_at hl 0 rfl) ?_
  obtain ⟨hb_5, hc_5⟩ := z_call (wc := [(h0, .inr (6, [.ref hu, .ref hs, .ref hc, .ref hp, .ref hg, .int 0, .int 0, .int 0, .int td, .int sd]))]) (tc := []) ([.ref h0]) hP hK hD hS hA hE hX [0] rfl rfl [] rfl
  have hF_5 := va_free (wc := [(h0, .inr (6, [.ref hu, .ref hs, .ref hc, .ref hp, .ref hg, .int 0, .int 0, .int 0, .int td, .int sd]))]) hD hS hA [0] rfl
  refine va_calli (va_runV (As := []) (rest := []) ⟨hx, hb, hml, hown, hts⟩ (k_X4_areWide l D h0 hu hs hc hp hg td sd _ ) (z_cV 0 hE zw_397 zw_318 zw_319 zw_91 zw_320 rfl rfl rfl (by decide +kernel) ⟨(Nat.le_of_ble_eq_true rfl), (Nat.le_of_ble_eq_true rfl)⟩) ⟨hb_5, va_recv hK hP (ci := 6) (q0 := 0) rfl rfl, hc_5⟩ rfl rfl hl.1 rfl (lv_room (Nat.le_of_ble_eq_true rfl)) dX4_isSound_15 ⟨(Nat.le_of_ble_eq_true rfl), (Nat.le_of_ble_eq_true rfl)⟩) hS (fun q _ h => hF_5 q h) hF_5 (fun r_5 u_5 t_5 H1 locs ht_5 hvm_5 hw_5 hB_5 hz_5 hk_5 hS1 => ?_)
  obtain ⟨hP, hK, hD⟩ := z_back (wc := [(h0, .inr (6, [.ref hu, .ref hs, .ref hc, .ref hp, .ref hg, .int 0, .int 0, .int 0, .int td, .int sd]))]) (wr := []) (w1 := [(h0, .inr (6, [.ref hu, .ref hs, .ref hc, .ref hp, .ref hg, .int 0, .int 0, .int 0, .int td, .int sd]))]) (tr := []) hP hK hD [0] [] rfl rfl rfl (by decide) ht_5 hvm_5 hk_5 hF_5 [] rfl hB_5
  have hS := hS1
  have hP : va_P D vwCl [(h0, .inr (6, [.ref hu, .ref hs, .ref hc, .ref hp, .ref hg, .int 0, .int 0, .int 0, .int td, .int sd]))] H1 := hP
  have hD : va_D A [(h0, .inr (6, [.ref hu, .ref hs, .ref hc, .ref hp, .ref hg, .int 0, .int 0, .int 0, .int td, .int sd]))] := hD
  have hK : va_K D vwCl [] s := hK
  clear hS1
  obtain rfl : r_5 = 1 := hw_5
  refine lv_if_eq (tgt := 32) hx hb dX4_isSound_18 (by decide) (fun c_6 => absurd c_6 (by decide)) (fun c_6 => ?_)
  refine lv_aload_n hx hb dX4_isSound_21 rfl (lv_at hl 0 rfl) ?_
  obtain ⟨hb_7, hc_7⟩ := z_call (wc := [(h0, .inr (6, [.ref hu, .ref hs, .ref hc, .ref hp, .ref hg, .int 0, .int 0, .int 0, .int td, .int sd]))]) (tc := []) ([.ref h0]) hP hK hD hS hA hE hX [0] rfl rfl [] rfl
  have hF_7 := va_free (wc := [(h0, .inr (6, [.ref hu, .ref hs, .ref hc, .ref hp, .ref hg, .int 0, .int 0, .int 0, .int td, .int sd]))]) hD hS hA [0] rfl
  refine va_calli (va_runV (As := []) (rest := []) ⟨hx, hb, hml, hown, hts⟩ (k_X4_areShopsSound l D h0 hu hs hc hp hg td sd _ ) (z_cV 0 hE zw_398 zw_400 zw_11 zw_91 zw_401 rfl rfl rfl (by decide +kernel) ⟨(Nat.le_of_ble_eq_true rfl), (Nat.le_of_ble_eq_true rfl)⟩) ⟨hb_7, va_recv hK hP (ci := 6) (q0 := 0) rfl rfl, hc_7⟩ rfl rfl hl.1 rfl (lv_room (Nat.le_of_ble_eq_true rfl)) dX4_isSound_22 ⟨(Nat.le_of_ble_eq_true rfl), (Nat.le_of_ble_eq_true rfl)⟩) hS (fun q _ h => hF_7 q h) hF_7 (fun r_7 u_7 t_7 H1 locs ht_7 hvm_7 hw_7 hB_7 hz_7 hk_7 hS1 => ?_)
  obtain ⟨hP, hK, hD⟩ := z_back (wc := [(h0, .inr (6, [.ref hu, .ref hs, .ref hc, .ref hp, .ref hg, .int 0, .int 0, .int 0, .int td, .int sd]))]) (wr := []) (w1 := [(h0, .inr (6, [.ref hu, .ref hs, .ref hc, .ref hp, .ref hg, .int 0, .int 0, .int 0, .int td, .int sd]))]) (tr := []) hP hK hD [0] [] rfl rfl rfl (by decide) ht_7 hvm_7 hk_7 hF_7 [] rfl hB_7
  have hS := hS1
  have hP : va_P D vwCl [(h0, .inr (6, [.ref hu, .ref hs, .ref hc, .ref hp, .ref hg, .int 0, .int 0, .int 0, .int td, .int sd]))] H1 := hP
  have hD : va_D A [(h0, .inr (6, [.ref hu, .ref hs, .ref hc, .ref hp, .ref hg, .int 0, .int 0, .int 0, .int td, .int sd]))] := hD
  have hK : va_K D vwCl [] s := hK
  clear hS1
  obtain rfl : r_7 = 1 := hw_7
  refine lv_if_eq (tgt := 32) hx hb dX4_isSound_25 (by decide) (fun c_8 => absurd c_8 (by decide)) (fun c_8 => ?_)
  refine lv_iconst (v := 1) hx hb dX4_isSound_28 (by decide) ?_
  refine lv_goto (tgt := 33) hx hb dX4_isSound_29 (by decide) ?_
  exact W.zret (v := 1) hx hb hr (by first | rfl | decide) (fun t ht hW => ⟨⟨1, (), rfl, rfl, z_end hP hK hD [0] rfl rfl [] rfl ht hW.alike⟩, hS.F ht⟩) hS.2.2 dX4_isSound_33
theorem dX4_day_0 : decode cX4_day 0 = .ok (.aload_n 0, 1) := by decide +kernel
theorem dX4_day_1 : decode cX4_day 1 = .ok (.getfield 48, 3) := by decide +kernel
theorem dX4_day_4 : decode cX4_day 4 = .ok (.ireturn, 1) := by decide +kernel
set_option maxHeartbeats 4000000 in
set_option maxRecDepth 100000 in
theorem k_X4_day (l : Launch) (D : va_G) (h0 : Nat) (hu : Nat) (hs : Nat) (hc : Nat) (hp : Nat) (hg : Nat) (td : Int32) (sd : Int32) (sz : Nat)  : Met l yX4_day [Cond.code yX4_day cX4_day 1 (some .int)] ({ frames := 0, cells := 0, slots := 0, locals := 0 }) (z_Pc D [.ref h0] [(h0, .inr (6, [.ref hu, .ref hs, .ref hc, .ref hp, .ref hg, .int 0, .int 0, .int 0, .int td, .int sd]))] [] sz) (va_Qi (fun (r : Int32) (_ : Unit) => r = td) (fun _ t => z_W D [(h0, .inr (6, [.ref hu, .ref hs, .ref hc, .ref hp, .ref hg, .int 0, .int 0, .int 0, .int td, .int sd]))] [] (va_A [(h0, .inr (6, [.ref hu, .ref hs, .ref hc, .ref hp, .ref hg, .int 0, .int 0, .int 0, .int td, .int sd]))] sz) t) (va_A [(h0, .inr (6, [.ref hu, .ref hs, .ref hc, .ref hp, .ref hg, .int 0, .int 0, .int 0, .int td, .int sd]))] sz)) 0 0 (va_A [(h0, .inr (6, [.ref hu, .ref hs, .ref hc, .ref hp, .ref hg, .int 0, .int 0, .int 0, .int td, .int sd]))] sz) := by
  refine Met.ofW (cc := cX4_day) (maxL := 1) (ret := (some .int)) (by decide +kernel) rfl ?_
  intro p e s m args below meth c s₁ B hml hv
  obtain ⟨rfl, hsz, hP, hK, hD0, hE, hX0⟩ := hv
  have hx := B.exec
  have hb := B.bytes
  have hr := B.returns
  have hts := z_E.ts (args := [.ref h0].toArray) hE
  have hown : s.vm.findClass RX4 = some m.cls := findClass_of_methodNamed B.named
  have hlocks := B.notSynchronized
  subst hsz
  have hD := hD0.self (sz := s.heap.size)
  generalize hAe : va_A [(h0, .inr (6, [.ref hu, .ref hs, .ref hc, .ref hp, .ref hg, .int 0, .int 0, .int 0, .int td, .int sd]))] s.heap.size = A at hD hX0 ⊢
  have hX : z_X D A s s.heap := hX0
  have hA : ∀ q : Nat, s.heap.size ≤ q → A q := fun q h => by rw [← hAe]; exact Or.inr h
  have hS : va_S A s.heap s.heap [] := va_S.rf
  have hP : va_P D vwCl [(h0, .inr (6, [.ref hu, .ref hs, .ref hc, .ref hp, .ref hg, .int 0, .int 0, .int 0, .int td, .int sd]))] s.heap := hP
  have hl := lv_entry ([.ref h0]) (n := 1) (Nat.le_of_ble_eq_true rfl)
  rw [lg_entry_eq]
  generalize (lg_sl ([.ref h0]) ++ List.replicate (1 - (lg_sl ([.ref h0])).length) Slot.unset).toArray = ls at hl ⊢
  have hl : lv_has ls 1 [(0, .ref h0)] := hl
  skip
  refine lv_aload_n hx hb dX4_day_0 rfl (lv_at hl 0 rfl) ?_
  refine va_get (D := D) (ci := 6) (v := .int td) (C := RX4) (T := TX4) (N := 10) hx hb hts zin_X4 hown hK hP 0 rfl rfl 8 (by decide) (hts _ zw_294) (fun _ h9 => h9) rfl dX4_day_1 ?_
  exact W.iret (v := td) hx hb hr (fun t ht hW => ⟨⟨td, (), rfl, rfl, z_end hP hK hD [0] rfl rfl [] rfl ht hW.alike⟩, hS.F ht⟩) hS.2.2 dX4_day_4
theorem dX4_fund_0 : decode cX4_fund 0 = .ok (.lconst 0, 1) := by decide +kernel
theorem dX4_fund_1 : decode cX4_fund 1 = .ok (.lstore_n 1, 1) := by decide +kernel
theorem dX4_fund_2 : decode cX4_fund 2 = .ok (.iconst 0, 1) := by decide +kernel
theorem dX4_fund_3 : decode cX4_fund 3 = .ok (.istore_n 3, 1) := by decide +kernel
theorem dX4_fund_4 : decode cX4_fund 4 = .ok (.iload_n 3, 1) := by decide +kernel
theorem dX4_fund_5 : decode cX4_fund 5 = .ok (.aload_n 0, 1) := by decide +kernel
theorem dX4_fund_6 : decode cX4_fund 6 = .ok (.getfield 42, 3) := by decide +kernel
theorem dX4_fund_9 : decode cX4_fund 9 = .ok (.if_icmp .ge 25, 3) := by decide +kernel
theorem dX4_fund_34 : decode cX4_fund 34 = .ok (.lload_n 1, 1) := by decide +kernel
theorem dX4_fund_35 : decode cX4_fund 35 = .ok (.lreturn, 1) := by decide +kernel
set_option maxHeartbeats 4000000 in
set_option maxRecDepth 100000 in
theorem k_X4_fund (l : Launch) (D : va_G) (h0 : Nat) (hu : Nat) (hs : Nat) (hc : Nat) (hp : Nat) (hg : Nat) (td : Int32) (sd : Int32) (sz : Nat)  : Met l yX4_fund [Cond.code yX4_fund cX4_fund 4 (some .long)] ({ frames := 0, cells := 0, slots := 0, locals := 0 }) (z_Pc D [.ref h0] [(h0, .inr (6, [.ref hu, .ref hs, .ref hc, .ref hp, .ref hg, .int 0, .int 0, .int 0, .int td, .int sd]))] [] sz) (va_Ql (fun (r : Int64) (_ : Unit) => r = 0) (fun _ t => z_W D [(h0, .inr (6, [.ref hu, .ref hs, .ref hc, .ref hp, .ref hg, .int 0, .int 0, .int 0, .int td, .int sd]))] [] (va_A [(h0, .inr (6, [.ref hu, .ref hs, .ref hc, .ref hp, .ref hg, .int 0, .int 0, .int 0, .int td, .int sd]))] sz) t) (va_A [(h0, .inr (6, [.ref hu, .ref hs, .ref hc, .ref hp, .ref hg, .int 0, .int 0, .int 0, .int td, .int sd]))] sz)) 0 0 (va_A [(h0, .inr (6, [.ref hu, .ref hs, .ref hc, .ref hp, .ref hg, .int 0, .int 0, .int 0, .int td, .int sd]))] sz) := by
  refine Met.ofW (cc := cX4_fund) (maxL := 4) (ret := (some .long)) (by decide +kernel) rfl ?_
  intro p e s m args below meth c s₁ B hml hv
  obtain ⟨rfl, hsz, hP, hK, hD0, hE, hX0⟩ := hv
  have hx := B.exec
  have hb := B.bytes
  have hr := B.returns
  have hts := z_E.ts (args := [.ref h0].toArray) hE
  have hown : s.vm.findClass RX4 = some m.cls := findClass_of_methodNamed B.named
  have hlocks := B.notSynchronized
  subst hsz
  have hD := hD0.self (sz := s.heap.size)
  generalize hAe : va_A [(h0, .inr (6, [.ref hu, .ref hs, .ref hc, .ref hp, .ref hg, .int 0, .int 0, .int 0, .int td, .int sd]))] s.heap.size = A at hD hX0 ⊢
  have hX : z_X D A s s.heap := hX0
  have hA : ∀ q : Nat, s.heap.size ≤ q → A q := fun q h => by rw [← hAe]; exact Or.inr h
  have hS : va_S A s.heap s.heap [] := va_S.rf
  have hP : va_P D vwCl [(h0, .inr (6, [.ref hu, .ref hs, .ref hc, .ref hp, .ref hg, .int 0, .int 0, .int 0, .int td, .int sd]))] s.heap := hP
  have hl := lv_entry ([.ref h0]) (n := 4) (Nat.le_of_ble_eq_true rfl)
  rw [lg_entry_eq]
  generalize (lg_sl ([.ref h0]) ++ List.replicate (4 - (lg_sl ([.ref h0])).length) Slot.unset).toArray = ls at hl ⊢
  have hl : lv_has ls 4 [(0, .ref h0)] := hl
  skip
  refine lv_lconst (v := 0) hx hb dX4_fund_0 (by decide) ?_
  refine lv_lstore_n (lv' := [(1, .long 0), (0, .ref h0)]) hx hb dX4_fund_1 rfl hl (by decide) rfl (fun ls hl => ?_)
  refine lv_iconst (v := 0) hx hb dX4_fund_2 (by decide) ?_
  refine lv_istore_n (lv' := [(3, .int 0), (1, .long 0), (0, .ref h0)]) hx hb dX4_fund_3 rfl hl (by decide) rfl (fun ls hl => ?_)
  refine lv_iload_n hx hb dX4_fund_4 rfl (lv_at hl 0 rfl) ?_
  refine lv_aload_n hx hb dX4_fund_5 rfl (lv_at hl 2 rfl) ?_
  refine va_get (D := D) (ci := 6) (v := .int 0) (C := RX4) (T := TX4) (N := 10) hx hb hts zin_X4 hown hK hP 0 rfl rfl 6 (by decide) (hts _ zw_292) (fun _ h9 => h9) rfl dX4_fund_6 ?_
  refine lv_icmp_ge (tgt := 34) hx hb dX4_fund_9 (by decide) (fun c_1 => ?_) (fun c_1 => absurd (by decide) c_1)
  refine lv_lload_n hx hb dX4_fund_34 rfl (lv_at hl 1 rfl) ?_
  exact W.lret (v := 0) hx hb hr (fun t ht hW => ⟨⟨0, (), rfl, rfl, z_end hP hK hD [0] rfl rfl [] rfl ht hW.alike⟩, hS.F ht⟩) hS.2.2 dX4_fund_35
theorem dX4_checksum_0 : decode cX4_checksum 0 = .ok (.ldc2_w 318, 3) := by decide +kernel
theorem zw_362 : Cond.constantLong RX4 318 7 ∈ z_Ts := z_m 362 (by decide +kernel) (by decide +kernel)
theorem dX4_checksum_3 : decode cX4_checksum 3 = .ok (.lstore_n 1, 1) := by decide +kernel
theorem dX4_checksum_4 : decode cX4_checksum 4 = .ok (.iconst 0, 1) := by decide +kernel
theorem dX4_checksum_5 : decode cX4_checksum 5 = .ok (.istore_n 3, 1) := by decide +kernel
theorem dX4_checksum_6 : decode cX4_checksum 6 = .ok (.iload_n 3, 1) := by decide +kernel
theorem dX4_checksum_7 : decode cX4_checksum 7 = .ok (.aload_n 0, 1) := by decide +kernel
theorem dX4_checksum_8 : decode cX4_checksum 8 = .ok (.getfield 42, 3) := by decide +kernel
theorem dX4_checksum_11 : decode cX4_checksum 11 = .ok (.if_icmp .ge 59, 3) := by decide +kernel
theorem dX4_checksum_70 : decode cX4_checksum 70 = .ok (.iconst 0, 1) := by decide +kernel
theorem dX4_checksum_71 : decode cX4_checksum 71 = .ok (.istore_n 3, 1) := by decide +kernel
theorem dX4_checksum_72 : decode cX4_checksum 72 = .ok (.iload_n 3, 1) := by decide +kernel
theorem dX4_checksum_73 : decode cX4_checksum 73 = .ok (.aload_n 0, 1) := by decide +kernel
theorem dX4_checksum_74 : decode cX4_checksum 74 = .ok (.getfield 38, 3) := by decide +kernel
theorem dX4_checksum_77 : decode cX4_checksum 77 = .ok (.if_icmp .ge 26, 3) := by decide +kernel
theorem dX4_checksum_103 : decode cX4_checksum 103 = .ok (.ldc2_w 320, 3) := by decide +kernel
theorem zw_363 : Cond.constantLong RX4 320 31 ∈ z_Ts := z_m 363 (by decide +kernel) (by decide +kernel)
theorem dX4_checksum_106 : decode cX4_checksum 106 = .ok (.lload_n 1, 1) := by decide +kernel
theorem dX4_checksum_107 : decode cX4_checksum 107 = .ok (.lmul, 1) := by decide +kernel
theorem dX4_checksum_108 : decode cX4_checksum 108 = .ok (.aload_n 0, 1) := by decide +kernel
theorem dX4_checksum_109 : decode cX4_checksum 109 = .ok (.getfield 48, 3) := by decide +kernel
theorem dX4_checksum_112 : decode cX4_checksum 112 = .ok (.i2l, 1) := by decide +kernel
theorem dX4_checksum_113 : decode cX4_checksum 113 = .ok (.ladd, 1) := by decide +kernel
theorem dX4_checksum_114 : decode cX4_checksum 114 = .ok (.lreturn, 1) := by decide +kernel
set_option maxHeartbeats 4000000 in
set_option maxRecDepth 100000 in
theorem k_X4_checksum (l : Launch) (D : va_G) (h0 : Nat) (hu : Nat) (hs : Nat) (hc : Nat) (hp : Nat) (hg : Nat) (sd : Int32) (sz : Nat)  : Met l yX4_checksum [Cond.code yX4_checksum cX4_checksum 4 (some .long)] ({ frames := 0, cells := 0, slots := 0, locals := 0 }) (z_Pc D [.ref h0] [(h0, .inr (6, [.ref hu, .ref hs, .ref hc, .ref hp, .ref hg, .int 0, .int 0, .int 0, .int 0, .int sd]))] [] sz) (va_Ql (fun (r : Int64) (_ : Unit) => r = 217) (fun _ t => z_W D [(h0, .inr (6, [.ref hu, .ref hs, .ref hc, .ref hp, .ref hg, .int 0, .int 0, .int 0, .int 0, .int sd]))] [] (va_A [(h0, .inr (6, [.ref hu, .ref hs, .ref hc, .ref hp, .ref hg, .int 0, .int 0, .int 0, .int 0, .int sd]))] sz) t) (va_A [(h0, .inr (6, [.ref hu, .ref hs, .ref hc, .ref hp, .ref hg, .int 0, .int 0, .int 0, .int 0, .int sd]))] sz)) 0 0 (va_A [(h0, .inr (6, [.ref hu, .ref hs, .ref hc, .ref hp, .ref hg, .int 0, .int 0, .int 0, .int 0, .int sd]))] sz) := by
  refine Met.ofW (cc := cX4_checksum) (maxL := 4) (ret := (some .long)) (by decide +kernel) rfl ?_
  intro p e s m args below meth c s₁ B hml hv
  obtain ⟨rfl, hsz, hP, hK, hD0, hE, hX0⟩ := hv
  have hx := B.exec
  have hb := B.bytes
  have hr := B.returns
  have hts := z_E.ts (args := [.ref h0].toArray) hE
  have hown : s.vm.findClass RX4 = some m.cls := findClass_of_methodNamed B.named
  have hlocks := B.notSynchronized
  subst hsz
  have hD := hD0.self (sz := s.heap.size)
  generalize hAe : va_A [(h0, .inr (6, [.ref hu, .ref hs, .ref hc, .ref hp, .ref hg, .int 0, .int 0, .int 0, .int 0, .int sd]))] s.heap.size = A at hD hX0 ⊢
  have hX : z_X D A s s.heap := hX0
  have hA : ∀ q : Nat, s.heap.size ≤ q → A q := fun q h => by rw [← hAe]; exact Or.inr h
  have hS : va_S A s.heap s.heap [] := va_S.rf
  have hP : va_P D vwCl [(h0, .inr (6, [.ref hu, .ref hs, .ref hc, .ref hp, .ref hg, .int 0, .int 0, .int 0, .int 0, .int sd]))] s.heap := hP
  have hl := lv_entry ([.ref h0]) (n := 4) (Nat.le_of_ble_eq_true rfl)
  rw [lg_entry_eq]
  generalize (lg_sl ([.ref h0]) ++ List.replicate (4 - (lg_sl ([.ref h0])).length) Slot.unset).toArray = ls at hl ⊢
  have hl : lv_has ls 4 [(0, .ref h0)] := hl
  skip
  refine lv_ldc2 hx hb hown (hts _ zw_362) dX4_checksum_0 ?_
  refine lv_lstore_n (lv' := [(1, .long 7), (0, .ref h0)]) hx hb dX4_checksum_3 rfl hl (by decide) rfl (fun ls hl => ?_)
  refine lv_iconst (v := 0) hx hb dX4_checksum_4 (by decide) ?_
  refine lv_istore_n (lv' := [(3, .int 0), (1, .long 7), (0, .ref h0)]) hx hb dX4_checksum_5 rfl hl (by decide) rfl (fun ls hl => ?_)
  refine lv_iload_n hx hb dX4_checksum_6 rfl (lv_at hl 0 rfl) ?_
  refine lv_aload_n hx hb dX4_checksum_7 rfl (lv_at hl 2 rfl) ?_
  refine va_get (D := D) (ci := 6) (v := .int 0) (C := RX4) (T := TX4) (N := 10) hx hb hts zin_X4 hown hK hP 0 rfl rfl 6 (by decide) (hts _ zw_292) (fun _ h9 => h9) rfl dX4_checksum_8 ?_
  refine lv_icmp_ge (tgt := 70) hx hb dX4_checksum_11 (by decide) (fun c_1 => ?_) (fun c_1 => absurd (by decide) c_1)
  refine lv_iconst (v := 0) hx hb dX4_checksum_70 (by decide) ?_
  refine lv_istore_n (lv' := [(3, .int 0), (1, .long 7), (0, .ref h0)]) hx hb dX4_checksum_71 rfl hl (by decide) rfl (fun ls hl => ?_)
  refine lv_iload_n hx hb dX4_checksum_72 rfl (lv_at hl 0 rfl) ?_
  refine lv_aload_n hx hb dX4_checksum_73 rfl (lv_at hl 2 rfl) ?_
  refine va_get (D := D) (ci := 6) (v := .int 0) (C := RX4) (T := TX4) (N := 10) hx hb hts zin_X4 hown hK hP 0 rfl rfl 5 (by decide) (hts _ zw_291) (fun _ h9 => h9) rfl dX4_checksum_74 ?_
  refine lv_icmp_ge (tgt := 103) hx hb dX4_checksum_77 (by decide) (fun c_2 => ?_) (fun c_2 => absurd (by decide) c_2)
  refine lv_ldc2 hx hb hown (hts _ zw_363) dX4_checksum_103 ?_
  refine lv_lload_n hx hb dX4_checksum_106 rfl (lv_at hl 1 rfl) ?_
  refine lv_lmul hx hb dX4_checksum_107 ?_
  refine lv_topl (fun y_3 ey_3 => ?_)
  obtain rfl : y_3 = 217 := ey_3.trans (by first | rfl | decide)
  refine lv_aload_n hx hb dX4_checksum_108 rfl (lv_at hl 2 rfl) ?_
  refine va_get (D := D) (ci := 6) (v := .int 0) (C := RX4) (T := TX4) (N := 10) hx hb hts zin_X4 hown hK hP 0 rfl rfl 8 (by decide) (hts _ zw_294) (fun _ h9 => h9) rfl dX4_checksum_109 ?_
  refine lv_i2l (v := 0) hx hb dX4_checksum_112 (by decide) ?_
  refine lv_ladd hx hb dX4_checksum_113 ?_
  refine lv_topl (fun y_4 ey_4 => ?_)
  obtain rfl : y_4 = 217 := ey_4.trans (by first | rfl | decide)
  exact W.lret (v := 217) hx hb hr (fun t ht hW => ⟨⟨217, (), rfl, rfl, z_end hP hK hD [0] rfl rfl [] rfl ht hW.alike⟩, hS.F ht⟩) hS.2.2 dX4_checksum_114
theorem dX4_letCrewsWork_0 : decode cX4_letCrewsWork 0 = .ok (.iconst 0, 1) := by decide +kernel
theorem dX4_letCrewsWork_1 : decode cX4_letCrewsWork 1 = .ok (.istore_n 1, 1) := by decide +kernel
theorem dX4_letCrewsWork_2 : decode cX4_letCrewsWork 2 = .ok (.iconst 0, 1) := by decide +kernel
theorem dX4_letCrewsWork_3 : decode cX4_letCrewsWork 3 = .ok (.istore_n 2, 1) := by decide +kernel
theorem dX4_letCrewsWork_4 : decode cX4_letCrewsWork 4 = .ok (.iload_n 2, 1) := by decide +kernel
theorem dX4_letCrewsWork_5 : decode cX4_letCrewsWork 5 = .ok (.aload_n 0, 1) := by decide +kernel
theorem dX4_letCrewsWork_6 : decode cX4_letCrewsWork 6 = .ok (.getfield 45, 3) := by decide +kernel
theorem dX4_letCrewsWork_9 : decode cX4_letCrewsWork 9 = .ok (.if_icmp .ge 61, 3) := by decide +kernel
theorem dX4_letCrewsWork_70 : decode cX4_letCrewsWork 70 = .ok (.iconst 0, 1) := by decide +kernel
theorem dX4_letCrewsWork_71 : decode cX4_letCrewsWork 71 = .ok (.istore_n 2, 1) := by decide +kernel
theorem dX4_letCrewsWork_72 : decode cX4_letCrewsWork 72 = .ok (.iload_n 2, 1) := by decide +kernel
theorem dX4_letCrewsWork_73 : decode cX4_letCrewsWork 73 = .ok (.aload_n 0, 1) := by decide +kernel
theorem dX4_letCrewsWork_74 : decode cX4_letCrewsWork 74 = .ok (.getfield 38, 3) := by decide +kernel
theorem dX4_letCrewsWork_77 : decode cX4_letCrewsWork 77 = .ok (.if_icmp .ge 48, 3) := by decide +kernel
theorem dX4_letCrewsWork_125 : decode cX4_letCrewsWork 125 = .ok (.return_, 1) := by decide +kernel
set_option maxHeartbeats 4000000 in
set_option maxRecDepth 100000 in
theorem k_X4_letCrewsWork (l : Launch) (D : va_G) (h0 : Nat) (hu : Nat) (hs : Nat) (hc : Nat) (hp : Nat) (hg : Nat) (td : Int32) (sd : Int32) (sz : Nat)  : Met l yX4_letCrewsWork [Cond.code yX4_letCrewsWork cX4_letCrewsWork 4 none] ({ frames := 0, cells := 0, slots := 0, locals := 0 }) (z_Pc D [.ref h0] [(h0, .inr (6, [.ref hu, .ref hs, .ref hc, .ref hp, .ref hg, .int 0, .int 0, .int 0, .int td, .int sd]))] [] sz) (va_Qv (fun _ : Unit => True) (fun _ t => z_W D [(h0, .inr (6, [.ref hu, .ref hs, .ref hc, .ref hp, .ref hg, .int 0, .int 0, .int 0, .int td, .int sd]))] [] (va_A [(h0, .inr (6, [.ref hu, .ref hs, .ref hc, .ref hp, .ref hg, .int 0, .int 0, .int 0, .int td, .int sd]))] sz) t) (va_A [(h0, .inr (6, [.ref hu, .ref hs, .ref hc, .ref hp, .ref hg, .int 0, .int 0, .int 0, .int td, .int sd]))] sz)) 0 0 (va_A [(h0, .inr (6, [.ref hu, .ref hs, .ref hc, .ref hp, .ref hg, .int 0, .int 0, .int 0, .int td, .int sd]))] sz) := by
  refine Met.ofW (cc := cX4_letCrewsWork) (maxL := 4) (ret := none) (by decide +kernel) rfl ?_
  intro p e s m args below meth c s₁ B hml hv
  obtain ⟨rfl, hsz, hP, hK, hD0, hE, hX0⟩ := hv
  have hx := B.exec
  have hb := B.bytes
  have hr := B.returns
  have hts := z_E.ts (args := [.ref h0].toArray) hE
  have hown : s.vm.findClass RX4 = some m.cls := findClass_of_methodNamed B.named
  have hlocks := B.notSynchronized
  subst hsz
  have hD := hD0.self (sz := s.heap.size)
  generalize hAe : va_A [(h0, .inr (6, [.ref hu, .ref hs, .ref hc, .ref hp, .ref hg, .int 0, .int 0, .int 0, .int td, .int sd]))] s.heap.size = A at hD hX0 ⊢
  have hX : z_X D A s s.heap := hX0
  have hA : ∀ q : Nat, s.heap.size ≤ q → A q := fun q h => by rw [← hAe]; exact Or.inr h
  have hS : va_S A s.heap s.heap [] := va_S.rf
  have hP : va_P D vwCl [(h0, .inr (6, [.ref hu, .ref hs, .ref hc, .ref hp, .ref hg, .int 0, .int 0, .int 0, .int td, .int sd]))] s.heap := hP
  have hl := lv_entry ([.ref h0]) (n := 4) (Nat.le_of_ble_eq_true rfl)
  rw [lg_entry_eq]
  generalize (lg_sl ([.ref h0]) ++ List.replicate (4 - (lg_sl ([.ref h0])).length) Slot.unset).toArray = ls at hl ⊢
  have hl : lv_has ls 4 [(0, .ref h0)] := hl
  skip
  refine lv_iconst (v := 0) hx hb dX4_letCrewsWork_0 (by decide) ?_
  refine lv_istore_n (lv' := [(1, .int 0), (0, .ref h0)]) hx hb dX4_letCrewsWork_1 rfl hl (by decide) rfl (fun ls hl => ?_)
  refine lv_iconst (v := 0) hx hb dX4_letCrewsWork_2 (by decide) ?_
  refine lv_istore_n (lv' := [(2, .int 0), (1, .int 0), (0, .ref h0)]) hx hb dX4_letCrewsWork_3 rfl hl (by decide) rfl (fun ls hl => ?_)
  refine lv_iload_n hx hb dX4_letCrewsWork_4 rfl (lv_at hl 0 rfl) ?_
  refine lv_aload_n hx hb dX4_letCrewsWork_5 rfl (lv_at hl 2 rfl) ?_
  refine va_get (D := D) (ci := 6) (v := .int 0) (C := RX4) (T := TX4) (N := 10) hx hb hts zin_X4 hown hK hP 0 rfl rfl 7 (by decide) (hts _ zw_293) (fun _ h9 => h9) rfl dX4_letCrewsWork_6 ?_
  refine lv_icmp_ge (tgt := 70) hx hb dX4_letCrewsWork_9 (by decide) (fun c_1 => ?_) (fun c_1 => absurd (by decide) c_1)
  refine lv_iconst (v := 0) hx hb dX4_letCrewsWork_70 (by decide) ?_
  refine lv_istore_n (lv' := [(2, .int 0), (1, .int 0), (0, .ref h0)]) hx hb dX4_letCrewsWork_71 rfl hl (by decide) rfl (fun ls hl => ?_)
  refine lv_iload_n hx hb dX4_letCrewsWork_72 rfl (lv_at hl 0 rfl) ?_
  refine lv_aload_n hx hb dX4_letCrewsWork_73 rfl (lv_at hl 2 rfl) ?_
  refine va_get (D := D) (ci := 6) (v := .int 0) (C := RX4) (T := TX4) (N := 10) hx hb hts zin_X4 hown hK hP 0 rfl rfl 5 (by decide) (hts _ zw_291) (fun _ h9 => h9) rfl dX4_letCrewsWork_74 ?_
  refine lv_icmp_ge (tgt := 125) hx hb dX4_letCrewsWork_77 (by decide) (fun c_2 => ?_) (fun c_2 => absurd (by decide) c_2)
  exact W.vret hx hb hr (fun t ht hW => ⟨⟨(), rfl, trivial, z_end hP hK hD [0] rfl rfl [] rfl ht hW.alike⟩, hS.F ht⟩) hS.2.2 dX4_letCrewsWork_125
theorem dX4_endWorks_0 : decode cX4_endWorks 0 = .ok (.iconst 0, 1) := by decide +kernel
theorem dX4_endWorks_1 : decode cX4_endWorks 1 = .ok (.istore_n 1, 1) := by decide +kernel
theorem dX4_endWorks_2 : decode cX4_endWorks 2 = .ok (.iload_n 1, 1) := by decide +kernel
theorem dX4_endWorks_3 : decode cX4_endWorks 3 = .ok (.aload_n 0, 1) := by decide +kernel
theorem dX4_endWorks_4 : decode cX4_endWorks 4 = .ok (.getfield 38, 3) := by decide +kernel
theorem dX4_endWorks_7 : decode cX4_endWorks 7 = .ok (.if_icmp .ge 44, 3) := by decide +kernel
theorem dX4_endWorks_51 : decode cX4_endWorks 51 = .ok (.return_, 1) := by decide +kernel
set_option maxHeartbeats 4000000 in
set_option maxRecDepth 100000 in
theorem k_X4_endWorks (l : Launch) (D : va_G) (h0 : Nat) (hu : Nat) (hs : Nat) (hc : Nat) (hp : Nat) (hg : Nat) (td : Int32) (sd : Int32) (sz : Nat)  : Met l yX4_endWorks [Cond.code yX4_endWorks cX4_endWorks 2 none] ({ frames := 0, cells := 0, slots := 0, locals := 0 }) (z_Pc D [.ref h0] [(h0, .inr (6, [.ref hu, .ref hs, .ref hc, .ref hp, .ref hg, .int 0, .int 0, .int 0, .int td, .int sd]))] [] sz) (va_Qv (fun _ : Unit => True) (fun _ t => z_W D [(h0, .inr (6, [.ref hu, .ref hs, .ref hc, .ref hp, .ref hg, .int 0, .int 0, .int 0, .int td, .int sd]))] [] (va_A [(h0, .inr (6, [.ref hu, .ref hs, .ref hc, .ref hp, .ref hg, .int 0, .int 0, .int 0, .int td, .int sd]))] sz) t) (va_A [(h0, .inr (6, [.ref hu, .ref hs, .ref hc, .ref hp, .ref hg, .int 0, .int 0, .int 0, .int td, .int sd]))] sz)) 0 0 (va_A [(h0, .inr (6, [.ref hu, .ref hs, .ref hc, .ref hp, .ref hg, .int 0, .int 0, .int 0, .int td, .int sd]))] sz) := by
  refine Met.ofW (cc := cX4_endWorks) (maxL := 2) (ret := none) (by decide +kernel) rfl ?_
  intro p e s m args below meth c s₁ B hml hv
  obtain ⟨rfl, hsz, hP, hK, hD0, hE, hX0⟩ := hv
  have hx := B.exec
  have hb := B.bytes
  have hr := B.returns
  have hts := z_E.ts (args := [.ref h0].toArray) hE
  have hown : s.vm.findClass RX4 = some m.cls := findClass_of_methodNamed B.named
  have hlocks := B.notSynchronized
  subst hsz
  have hD := hD0.self (sz := s.heap.size)
  generalize hAe : va_A [(h0, .inr (6, [.ref hu, .ref hs, .ref hc, .ref hp, .ref hg, .int 0, .int 0, .int 0, .int td, .int sd]))] s.heap.size = A at hD hX0 ⊢
  have hX : z_X D A s s.heap := hX0
  have hA : ∀ q : Nat, s.heap.size ≤ q → A q := fun q h => by rw [← hAe]; exact Or.inr h
  have hS : va_S A s.heap s.heap [] := va_S.rf
  have hP : va_P D vwCl [(h0, .inr (6, [.ref hu, .ref hs, .ref hc, .ref hp, .ref hg, .int 0, .int 0, .int 0, .int td, .int sd]))] s.heap := hP
  have hl := lv_entry ([.ref h0]) (n := 2) (Nat.le_of_ble_eq_true rfl)
  rw [lg_entry_eq]
  generalize (lg_sl ([.ref h0]) ++ List.replicate (2 - (lg_sl ([.ref h0])).length) Slot.unset).toArray = ls at hl ⊢
  have hl : lv_has ls 2 [(0, .ref h0)] := hl
  skip
  refine lv_iconst (v := 0) hx hb dX4_endWorks_0 (by decide) ?_
  refine lv_istore_n (lv' := [(1, .int 0), (0, .ref h0)]) hx hb dX4_endWorks_1 rfl hl (by decide) rfl (fun ls hl => ?_)
  refine lv_iload_n hx hb dX4_endWorks_2 rfl (lv_at hl 0 rfl) ?_
  refine lv_aload_n hx hb dX4_endWorks_3 rfl (lv_at hl 1 rfl) ?_
  refine va_get (D := D) (ci := 6) (v := .int 0) (C := RX4) (T := TX4) (N := 10) hx hb hts zin_X4 hown hK hP 0 rfl rfl 5 (by decide) (hts _ zw_291) (fun _ h9 => h9) rfl dX4_endWorks_4 ?_
  refine lv_icmp_ge (tgt := 51) hx hb dX4_endWorks_7 (by decide) (fun c_1 => ?_) (fun c_1 => absurd (by decide) c_1)
  exact W.vret hx hb hr (fun t ht hW => ⟨⟨(), rfl, trivial, z_end hP hK hD [0] rfl rfl [] rfl ht hW.alike⟩, hS.F ht⟩) hS.2.2 dX4_endWorks_51
theorem dX4_passOneDay_0 : decode cX4_passOneDay 0 = .ok (.iconst 0, 1) := by decide +kernel
theorem dX4_passOneDay_1 : decode cX4_passOneDay 1 = .ok (.istore_n 1, 1) := by decide +kernel
theorem dX4_passOneDay_2 : decode cX4_passOneDay 2 = .ok (.iload_n 1, 1) := by decide +kernel
theorem dX4_passOneDay_3 : decode cX4_passOneDay 3 = .ok (.aload_n 0, 1) := by decide +kernel
theorem dX4_passOneDay_4 : decode cX4_passOneDay 4 = .ok (.getfield 42, 3) := by decide +kernel
theorem dX4_passOneDay_7 : decode cX4_passOneDay 7 = .ok (.if_icmp .ge 19, 3) := by decide +kernel
theorem dX4_passOneDay_26 : decode cX4_passOneDay 26 = .ok (.aload_n 0, 1) := by decide +kernel
theorem dX4_passOneDay_27 : decode cX4_passOneDay 27 = .ok (.invokevirtual 375, 3) := by decide +kernel
theorem zw_849 : Cond.methodLink RX4 375 yX4_letCrewsWork ∈ z_Ts := z_m 849 (by decide +kernel) (by decide +kernel)
theorem zw_851 : Cond.instanceMethod yX4_letCrewsWork ∈ z_Ts := z_m 851 (by decide +kernel) (by decide +kernel)
theorem zw_37 : Cond.selects RX4 yX4_letCrewsWork yX4_letCrewsWork ∈ z_Ts := z_m 37 (by decide +kernel) (by decide +kernel)
theorem zw_852 : Cond.code yX4_letCrewsWork cX4_letCrewsWork 4 none ∈ z_Ts := z_m 852 (by decide +kernel) (by decide +kernel)
theorem dX4_passOneDay_30 : decode cX4_passOneDay 30 = .ok (.aload_n 0, 1) := by decide +kernel
theorem dX4_passOneDay_31 : decode cX4_passOneDay 31 = .ok (.invokevirtual 378, 3) := by decide +kernel
theorem zw_873 : Cond.methodLink RX4 378 yX4_endWorks ∈ z_Ts := z_m 873 (by decide +kernel) (by decide +kernel)
theorem zw_875 : Cond.instanceMethod yX4_endWorks ∈ z_Ts := z_m 875 (by decide +kernel) (by decide +kernel)
theorem zw_43 : Cond.selects RX4 yX4_endWorks yX4_endWorks ∈ z_Ts := z_m 43 (by decide +kernel) (by decide +kernel)
theorem zw_876 : Cond.code yX4_endWorks cX4_endWorks 2 none ∈ z_Ts := z_m 876 (by decide +kernel) (by decide +kernel)
theorem dX4_passOneDay_34 : decode cX4_passOneDay 34 = .ok (.aload_n 0, 1) := by decide +kernel
theorem dX4_passOneDay_35 : decode cX4_passOneDay 35 = .ok (.getfield 51, 3) := by decide +kernel
theorem dX4_passOneDay_38 : decode cX4_passOneDay 38 = .ok (.ifCond .le 13, 3) := by decide +kernel
theorem dX4_passOneDay_51 : decode cX4_passOneDay 51 = .ok (.iconst 0, 1) := by decide +kernel
theorem dX4_passOneDay_52 : decode cX4_passOneDay 52 = .ok (.istore_n 1, 1) := by decide +kernel
theorem dX4_passOneDay_53 : decode cX4_passOneDay 53 = .ok (.iload_n 1, 1) := by decide +kernel
theorem dX4_passOneDay_54 : decode cX4_passOneDay 54 = .ok (.aload_n 0, 1) := by decide +kernel
theorem dX4_passOneDay_55 : decode cX4_passOneDay 55 = .ok (.getfield 42, 3) := by decide +kernel
theorem dX4_passOneDay_58 : decode cX4_passOneDay 58 = .ok (.if_icmp .ge 19, 3) := by decide +kernel
theorem dX4_passOneDay_77 : decode cX4_passOneDay 77 = .ok (.aload_n 0, 1) := by decide +kernel
theorem dX4_passOneDay_78 : decode cX4_passOneDay 78 = .ok (.dup, 1) := by decide +kernel
theorem dX4_passOneDay_79 : decode cX4_passOneDay 79 = .ok (.getfield 48, 3) := by decide +kernel
theorem dX4_passOneDay_82 : decode cX4_passOneDay 82 = .ok (.iconst 1, 1) := by decide +kernel
theorem dX4_passOneDay_83 : decode cX4_passOneDay 83 = .ok (.iadd, 1) := by decide +kernel
theorem dX4_passOneDay_84 : decode cX4_passOneDay 84 = .ok (.putfield 48, 3) := by decide +kernel
theorem dX4_passOneDay_87 : decode cX4_passOneDay 87 = .ok (.return_, 1) := by decide +kernel
set_option maxHeartbeats 4000000 in
set_option maxRecDepth 100000 in
theorem k_X4_passOneDay (l : Launch) (D : va_G) (h0 : Nat) (hu : Nat) (hs : Nat) (hc : Nat) (hp : Nat) (hg : Nat) (td : Int32) (sz : Nat)  : Met l yX4_passOneDay [Cond.code yX4_passOneDay cX4_passOneDay 2 none] ({ frames := 1, cells := 0, slots := 0, locals := 50 }) (z_Pc D [.ref h0] [(h0, .inr (6, [.ref hu, .ref hs, .ref hc, .ref hp, .ref hg, .int 0, .int 0, .int 0, .int td, .int 0]))] [] sz) (va_Qv (fun _ : Unit => True) (fun _ t => z_W D [(h0, .inr (6, [.ref hu, .ref hs, .ref hc, .ref hp, .ref hg, .int 0, .int 0, .int 0, .int (td + 1), .int 0]))] [] (va_A [(h0, .inr (6, [.ref hu, .ref hs, .ref hc, .ref hp, .ref hg, .int 0, .int 0, .int 0, .int td, .int 0]))] sz) t) (va_A [(h0, .inr (6, [.ref hu, .ref hs, .ref hc, .ref hp, .ref hg, .int 0, .int 0, .int 0, .int td, .int 0]))] sz)) 0 0 (va_A [(h0, .inr (6, [.ref hu, .ref hs, .ref hc, .ref hp, .ref hg, .int 0, .int 0, .int 0, .int td, .int 0]))] sz) := by
  refine Met.ofW (cc := cX4_passOneDay) (maxL := 2) (ret := none) (by decide +kernel) rfl ?_
  intro p e s m args below meth c s₁ B hml hv
  obtain ⟨rfl, hsz, hP, hK, hD0, hE, hX0⟩ := hv
  have hx := B.exec
  have hb := B.bytes
  have hr := B.returns
  have hts := z_E.ts (args := [.ref h0].toArray) hE
  have hown : s.vm.findClass RX4 = some m.cls := findClass_of_methodNamed B.named
  have hlocks := B.notSynchronized
  subst hsz
  have hD := hD0.self (sz := s.heap.size)
  generalize hAe : va_A [(h0, .inr (6, [.ref hu, .ref hs, .ref hc, .ref hp, .ref hg, .int 0, .int 0, .int 0, .int td, .int 0]))] s.heap.size = A at hD hX0 ⊢
  have hX : z_X D A s s.heap := hX0
  have hA : ∀ q : Nat, s.heap.size ≤ q → A q := fun q h => by rw [← hAe]; exact Or.inr h
  have hS : va_S A s.heap s.heap [] := va_S.rf
  have hP : va_P D vwCl [(h0, .inr (6, [.ref hu, .ref hs, .ref hc, .ref hp, .ref hg, .int 0, .int 0, .int 0, .int td, .int 0]))] s.heap := hP
  have hl := lv_entry ([.ref h0]) (n := 2) (Nat.le_of_ble_eq_true rfl)
  rw [lg_entry_eq]
  generalize (lg_sl ([.ref h0]) ++ List.replicate (2 - (lg_sl ([.ref h0])).length) Slot.unset).toArray = ls at hl ⊢
  have hl : lv_has ls 2 [(0, .ref h0)] := hl
  skip
  refine lv_iconst (v := 0) hx hb dX4_passOneDay_0 (by decide) ?_
  refine lv_istore_n (lv' := [(1, .int 0), (0, .ref h0)]) hx hb dX4_passOneDay_1 rfl hl (by decide) rfl (fun ls hl => ?_)
  refine lv_iload_n hx hb dX4_passOneDay_2 rfl (lv_at hl 0 rfl) ?_
  refine lv_aload_n hx hb dX4_passOneDay_3 rfl (lv_at hl 1 rfl) ?_
  refine va_get (D := D) (ci := 6) (v := .int 0) (C := RX4) (T := TX4) (N := 10) hx hb hts zin_X4 hown hK hP 0 rfl rfl 6 (by decide) (hts _ zw_292) (fun _ h9 => h9) rfl dX4_passOneDay_4 ?_
  refine lv_icmp_ge (tgt := 26) hx hb dX4_passOneDay_7 (by decide) (fun c_1 => ?_) (fun c_1 => absurd (by decide) c_1)
  refine lv_aload_n hx hb dX4_passOneDay_26 rfl (lv_at hl 1 rfl) ?_
  obtain ⟨hb_2, hc_2⟩ := z_call (wc := [(h0, .inr (6, [.ref hu, .ref hs, .ref hc, .ref hp, .ref hg, .int 0, .int 0, .int 0, .int td, .int 0]))]) (tc := []) ([.ref h0]) hP hK hD hS hA hE hX [0] rfl rfl [] rfl
  have hF_2 := va_free (wc := [(h0, .inr (6, [.ref hu, .ref hs, .ref hc, .ref hp, .ref hg, .int 0, .int 0, .int 0, .int td, .int 0]))]) hD hS hA [0] rfl
  refine va_callv (va_runV (As := []) (rest := []) ⟨hx, hb, hml, hown, hts⟩ (k_X4_letCrewsWork l D h0 hu hs hc hp hg td 0 _ ) (z_cV 0 hE zw_849 zw_851 zw_37 zw_91 zw_852 rfl rfl rfl (by decide +kernel) ⟨(Nat.le_of_ble_eq_true rfl), (Nat.le_of_ble_eq_true rfl)⟩) ⟨hb_2, va_recv hK hP (ci := 6) (q0 := 0) rfl rfl, hc_2⟩ rfl rfl hl.1 rfl (lv_room (Nat.le_of_ble_eq_true rfl)) dX4_passOneDay_27 ⟨(Nat.le_of_ble_eq_true rfl), (Nat.le_of_ble_eq_true rfl)⟩) hS (fun q _ h => hF_2 q h) hF_2 (fun u_2 t_2 H1 locs ht_2 hvm_2 hw_2 hB_2 hz_2 hk_2 hS1 => ?_)
  obtain ⟨hP, hK, hD⟩ := z_back (wc := [(h0, .inr (6, [.ref hu, .ref hs, .ref hc, .ref hp, .ref hg, .int 0, .int 0, .int 0, .int td, .int 0]))]) (wr := []) (w1 := [(h0, .inr (6, [.ref hu, .ref hs, .ref hc, .ref hp, .ref hg, .int 0, .int 0, .int 0, .int td, .int 0]))]) (tr := []) hP hK hD [0] [] rfl rfl rfl (by decide) ht_2 hvm_2 hk_2 hF_2 [] rfl hB_2
  have hS := hS1
  have hP : va_P D vwCl [(h0, .inr (6, [.ref hu, .ref hs, .ref hc, .ref hp, .ref hg, .int 0, .int 0, .int 0, .int td, .int 0]))] H1 := hP
  have hD : va_D A [(h0, .inr (6, [.ref hu, .ref hs, .ref hc, .ref hp, .ref hg, .int 0, .int 0, .int 0, .int td, .int 0]))] := hD
  have hK : va_K D vwCl [] s := hK
  clear hS1
  refine lv_aload_n hx hb dX4_passOneDay_30 rfl (lv_at hl 1 rfl) ?_
  obtain ⟨hb_3, hc_3⟩ := z_call (wc := [(h0, .inr (6, [.ref hu, .ref hs, .ref hc, .ref hp, .ref hg, .int 0, .int 0, .int 0, .int td, .int 0]))]) (tc := []) ([.ref h0]) hP hK hD hS hA hE hX [0] rfl rfl [] rfl
  have hF_3 := va_free (wc := [(h0, .inr (6, [.ref hu, .ref hs, .ref hc, .ref hp, .ref hg, .int 0, .int 0, .int 0, .int td, .int 0]))]) hD hS hA [0] rfl
  refine va_callv (va_runV (As := []) (rest := []) ⟨hx, hb, hml, hown, hts⟩ (k_X4_endWorks l D h0 hu hs hc hp hg td 0 _ ) (z_cV 0 hE zw_873 zw_875 zw_43 zw_91 zw_876 rfl rfl rfl (by decide +kernel) ⟨(Nat.le_of_ble_eq_true rfl), (Nat.le_of_ble_eq_true rfl)⟩) ⟨hb_3, va_recv hK hP (ci := 6) (q0 := 0) rfl rfl, hc_3⟩ rfl rfl hl.1 rfl (lv_room (Nat.le_of_ble_eq_true rfl)) dX4_passOneDay_31 ⟨(Nat.le_of_ble_eq_true rfl), (Nat.le_of_ble_eq_true rfl)⟩) hS (fun q _ h => hF_3 q h) hF_3 (fun u_3 t_3 H1 locs ht_3 hvm_3 hw_3 hB_3 hz_3 hk_3 hS1 => ?_)
  obtain ⟨hP, hK, hD⟩ := z_back (wc := [(h0, .inr (6, [.ref hu, .ref hs, .ref hc, .ref hp, .ref hg, .int 0, .int 0, .int 0, .int td, .int 0]))]) (wr := []) (w1 := [(h0, .inr (6, [.ref hu, .ref hs, .ref hc, .ref hp, .ref hg, .int 0, .int 0, .int 0, .int td, .int 0]))]) (tr := []) hP hK hD [0] [] rfl rfl rfl (by decide) ht_3 hvm_3 hk_3 hF_3 [] rfl hB_3
  have hS := hS1
  have hP : va_P D vwCl [(h0, .inr (6, [.ref hu, .ref hs, .ref hc, .ref hp, .ref hg, .int 0, .int 0, .int 0, .int td, .int 0]))] H1 := hP
  have hD : va_D A [(h0, .inr (6, [.ref hu, .ref hs, .ref hc, .ref hp, .ref hg, .int 0, .int 0, .int 0, .int td, .int 0]))] := hD
  have hK : va_K D vwCl [] s := hK
  clear hS1
  refine lv_aload_n hx hb dX4_passOneDay_34 rfl (lv_at hl 1 rfl) ?_
  refine va_get (D := D) (ci := 6) (v := .int 0) (C := RX4) (T := TX4) (N := 10) hx hb hts zin_X4 hown hK hP 0 rfl rfl 9 (by decide) (hts _ zw_295) (fun _ h9 => h9) rfl dX4_passOneDay_35 ?_
  refine lv_if_le (tgt := 51) hx hb dX4_passOneDay_38 (by decide) (fun c_4 => ?_) (fun c_4 => absurd (by decide) c_4)
  refine lv_iconst (v := 0) hx hb dX4_passOneDay_51 (by decide) ?_
  refine lv_istore_n (lv' := [(1, .int 0), (0, .ref h0)]) hx hb dX4_passOneDay_52 rfl hl (by decide) rfl (fun ls hl => ?_)
  refine lv_iload_n hx hb dX4_passOneDay_53 rfl (lv_at hl 0 rfl) ?_
  refine lv_aload_n hx hb dX4_passOneDay_54 rfl (lv_at hl 1 rfl) ?_
  refine va_get (D := D) (ci := 6) (v := .int 0) (C := RX4) (T := TX4) (N := 10) hx hb hts zin_X4 hown hK hP 0 rfl rfl 6 (by decide) (hts _ zw_292) (fun _ h9 => h9) rfl dX4_passOneDay_55 ?_
  refine lv_icmp_ge (tgt := 77) hx hb dX4_passOneDay_58 (by decide) (fun c_5 => ?_) (fun c_5 => absurd (by decide) c_5)
  refine lv_aload_n hx hb dX4_passOneDay_77 rfl (lv_at hl 1 rfl) ?_
  refine lv_dup hx hb dX4_passOneDay_78 rfl ?_
  refine va_get (D := D) (ci := 6) (v := .int td) (C := RX4) (T := TX4) (N := 10) hx hb hts zin_X4 hown hK hP 0 rfl rfl 8 (by decide) (hts _ zw_294) (fun _ h9 => h9) rfl dX4_passOneDay_79 ?_
  refine lv_iconst (v := 1) hx hb dX4_passOneDay_82 (by decide) ?_
  refine lv_iadd hx hb dX4_passOneDay_83 ?_
  refine lv_topi (fun x_6 ex_6 => ?_)
  refine va_put (D := D) (ci := 6) (v := .int x_6) (ty := .int) (C := RX4) (T := TX4) (N := 10) hx hb hts zin_X4 tyX4 tyX4_ok nmX4 hown hK hP hD hS 0 rfl rfl 8 (by decide) (hts _ zw_294) (fun _ h9 => h9) rfl (by decide +kernel) rfl rfl (Nat.le_of_ble_eq_true rfl) dX4_passOneDay_84 (fun H locs hP hD hS => ?_)
  have hP : va_P D vwCl [(h0, .inr (6, [.ref hu, .ref hs, .ref hc, .ref hp, .ref hg, .int 0, .int 0, .int 0, .int x_6, .int 0]))] H := hP
  have hD : va_D A [(h0, .inr (6, [.ref hu, .ref hs, .ref hc, .ref hp, .ref hg, .int 0, .int 0, .int 0, .int x_6, .int 0]))] := hD
  subst ex_6
  exact W.vret hx hb hr (fun t ht hW => ⟨⟨(), rfl, trivial, z_end hP hK hD [0] rfl rfl [] rfl ht hW.alike⟩, hS.F ht⟩) hS.2.2 dX4_passOneDay_87
theorem dX1_putWorksOn_0 : decode cX1_putWorksOn 0 = .ok (.aload_n 0, 1) := by decide +kernel
theorem dX1_putWorksOn_1 : decode cX1_putWorksOn 1 = .ok (.iconst 0, 1) := by decide +kernel
theorem dX1_putWorksOn_2 : decode cX1_putWorksOn 2 = .ok (.putfield 28, 3) := by decide +kernel
theorem dX1_putWorksOn_5 : decode cX1_putWorksOn 5 = .ok (.aload_n 0, 1) := by decide +kernel
theorem dX1_putWorksOn_6 : decode cX1_putWorksOn 6 = .ok (.iconst 0, 1) := by decide +kernel
theorem dX1_putWorksOn_7 : decode cX1_putWorksOn 7 = .ok (.putfield 31, 3) := by decide +kernel
theorem dX1_putWorksOn_10 : decode cX1_putWorksOn 10 = .ok (.iconst 0, 1) := by decide +kernel
theorem dX1_putWorksOn_11 : decode cX1_putWorksOn 11 = .ok (.istore_n 3, 1) := by decide +kernel
theorem dX1_putWorksOn_12 : decode cX1_putWorksOn 12 = .ok (.iload_n 3, 1) := by decide +kernel
theorem dX1_putWorksOn_13 : decode cX1_putWorksOn 13 = .ok (.iload_n 2, 1) := by decide +kernel
theorem dX1_putWorksOn_14 : decode cX1_putWorksOn 14 = .ok (.if_icmp .ge 30, 3) := by decide +kernel
theorem dX1_putWorksOn_44 : decode cX1_putWorksOn 44 = .ok (.return_, 1) := by decide +kernel
set_option maxHeartbeats 4000000 in
set_option maxRecDepth 100000 in
theorem k_X1_putWorksOn (l : Launch) (D : va_G) (h0 : Nat) (go : Nat) (gs : Nat) (ge : Nat) (gb : Nat) (hu : Nat) (sz : Nat)  : Met l yX1_putWorksOn [Cond.code yX1_putWorksOn cX1_putWorksOn 4 none] ({ frames := 0, cells := 0, slots := 0, locals := 0 }) (z_Pc D [.ref h0, .ref hu, .int 0] [(h0, .inr (3, [.ref go, .ref gs, .ref ge, .ref gb, .int 0, .int 0, .int 0, .int 1000000]))] [] sz) (va_Qv (fun _ : Unit => True) (fun _ t => z_W D [(h0, .inr (3, [.ref go, .ref gs, .ref ge, .ref gb, .int 0, .int 0, .int 0, .int 1000000]))] [] (va_A [(h0, .inr (3, [.ref go, .ref gs, .ref ge, .ref gb, .int 0, .int 0, .int 0, .int 1000000]))] sz) t) (va_A [(h0, .inr (3, [.ref go, .ref gs, .ref ge, .ref gb, .int 0, .int 0, .int 0, .int 1000000]))] sz)) 0 0 (va_A [(h0, .inr (3, [.ref go, .ref gs, .ref ge, .ref gb, .int 0, .int 0, .int 0, .int 1000000]))] sz) := by
  refine Met.ofW (cc := cX1_putWorksOn) (maxL := 4) (ret := none) (by decide +kernel) rfl ?_
  intro p e s m args below meth c s₁ B hml hv
  obtain ⟨rfl, hsz, hP, hK, hD0, hE, hX0⟩ := hv
  have hx := B.exec
  have hb := B.bytes
  have hr := B.returns
  have hts := z_E.ts (args := [.ref h0, .ref hu, .int 0].toArray) hE
  have hown : s.vm.findClass RX1 = some m.cls := findClass_of_methodNamed B.named
  have hlocks := B.notSynchronized
  subst hsz
  have hD := hD0.self (sz := s.heap.size)
  generalize hAe : va_A [(h0, .inr (3, [.ref go, .ref gs, .ref ge, .ref gb, .int 0, .int 0, .int 0, .int 1000000]))] s.heap.size = A at hD hX0 ⊢
  have hX : z_X D A s s.heap := hX0
  have hA : ∀ q : Nat, s.heap.size ≤ q → A q := fun q h => by rw [← hAe]; exact Or.inr h
  have hS : va_S A s.heap s.heap [] := va_S.rf
  have hP : va_P D vwCl [(h0, .inr (3, [.ref go, .ref gs, .ref ge, .ref gb, .int 0, .int 0, .int 0, .int 1000000]))] s.heap := hP
  have hl := lv_entry ([.ref h0, .ref hu, .int 0]) (n := 4) (Nat.le_of_ble_eq_true rfl)
  rw [lg_entry_eq]
  generalize (lg_sl ([.ref h0, .ref hu, .int 0]) ++ List.replicate (4 - (lg_sl ([.ref h0, .ref hu, .int 0])).length) Slot.unset).toArray = ls at hl ⊢
  have hl : lv_has ls 4 [(0, .ref h0), (1, .ref hu), (2, .int 0)] := hl
  skip
  refine lv_aload_n hx hb dX1_putWorksOn_0 rfl (lv_at hl 0 rfl) ?_
  refine lv_iconst (v := 0) hx hb dX1_putWorksOn_1 (by decide) ?_
  refine va_put (D := D) (ci := 3) (v := .int 0) (ty := .int) (C := RX1) (T := TX1) (N := 8) hx hb hts zin_X1 tyX1 tyX1_ok nmX1 hown hK hP hD hS 0 rfl rfl 5 (by decide) (hts _ zw_149) (fun _ h9 => h9) rfl (by decide +kernel) rfl rfl (Nat.le_of_ble_eq_true rfl) dX1_putWorksOn_2 (fun H locs hP hD hS => ?_)
  have hP : va_P D vwCl [(h0, .inr (3, [.ref go, .ref gs, .ref ge, .ref gb, .int 0, .int 0, .int 0, .int 1000000]))] H := hP
  have hD : va_D A [(h0, .inr (3, [.ref go, .ref gs, .ref ge, .ref gb, .int 0, .int 0, .int 0, .int 1000000]))] := hD
  refine lv_aload_n hx hb dX1_putWorksOn_5 rfl (lv_at hl 0 rfl) ?_
  refine lv_iconst (v := 0) hx hb dX1_putWorksOn_6 (by decide) ?_
  refine va_put (D := D) (ci := 3) (v := .int 0) (ty := .int) (C := RX1) (T := TX1) (N := 8) hx hb hts zin_X1 tyX1 tyX1_ok nmX1 hown hK hP hD hS 0 rfl rfl 6 (by decide) (hts _ zw_150) (fun _ h9 => h9) rfl (by decide +kernel) rfl rfl (Nat.le_of_ble_eq_true rfl) dX1_putWorksOn_7 (fun H locs hP hD hS => ?_)
  have hP : va_P D vwCl [(h0, .inr (3, [.ref go, .ref gs, .ref ge, .ref gb, .int 0, .int 0, .int 0, .int 1000000]))] H := hP
  have hD : va_D A [(h0, .inr (3, [.ref go, .ref gs, .ref ge, .ref gb, .int 0, .int 0, .int 0, .int 1000000]))] := hD
  refine lv_iconst (v := 0) hx hb dX1_putWorksOn_10 (by decide) ?_
  refine lv_istore_n (lv' := [(3, .int 0), (0, .ref h0), (1, .ref hu), (2, .int 0)]) hx hb dX1_putWorksOn_11 rfl hl (by decide) rfl (fun ls hl => ?_)
  refine lv_iload_n hx hb dX1_putWorksOn_12 rfl (lv_at hl 0 rfl) ?_
  refine lv_iload_n hx hb dX1_putWorksOn_13 rfl (lv_at hl 3 rfl) ?_
  refine lv_icmp_ge (tgt := 44) hx hb dX1_putWorksOn_14 (by decide) (fun c_1 => ?_) (fun c_1 => absurd (by decide) c_1)
  exact W.vret hx hb hr (fun t ht hW => ⟨⟨(), rfl, trivial, z_end hP hK hD [0] rfl rfl [] rfl ht hW.alike⟩, hS.F ht⟩) hS.2.2 dX1_putWorksOn_44
theorem dX1_putInOrder_0 : decode cX1_putInOrder 0 = .ok (.iconst 0, 1) := by decide +kernel
theorem dX1_putInOrder_1 : decode cX1_putInOrder 1 = .ok (.istore_n 3, 1) := by decide +kernel
theorem dX1_putInOrder_2 : decode cX1_putInOrder 2 = .ok (.iload_n 3, 1) := by decide +kernel
theorem dX1_putInOrder_3 : decode cX1_putInOrder 3 = .ok (.aload_n 0, 1) := by decide +kernel
theorem dX1_putInOrder_4 : decode cX1_putInOrder 4 = .ok (.getfield 24, 3) := by decide +kernel
theorem dX1_putInOrder_7 : decode cX1_putInOrder 7 = .ok (.if_icmp .ge 100, 3) := by decide +kernel
theorem dX1_putInOrder_107 : decode cX1_putInOrder 107 = .ok (.iconst 1, 1) := by decide +kernel
theorem dX1_putInOrder_108 : decode cX1_putInOrder 108 = .ok (.ireturn, 1) := by decide +kernel
set_option maxHeartbeats 4000000 in
set_option maxRecDepth 100000 in
theorem k_X1_putInOrder (l : Launch) (D : va_G) (h0 : Nat) (go : Nat) (gs : Nat) (ge : Nat) (gb : Nat) (hu : Nat) (sz : Nat)  : Met l yX1_putInOrder [Cond.code yX1_putInOrder cX1_putInOrder 7 (some .boolean)] ({ frames := 0, cells := 0, slots := 0, locals := 0 }) (z_Pc D [.ref h0, .ref hu, .int 0] [(h0, .inr (3, [.ref go, .ref gs, .ref ge, .ref gb, .int 0, .int 0, .int 0, .int 1000000]))] [] sz) (va_Qi (fun (r : Int32) (_ : Unit) => r = 1) (fun _ t => z_W D [(h0, .inr (3, [.ref go, .ref gs, .ref ge, .ref gb, .int 0, .int 0, .int 0, .int 1000000]))] [] (va_A [(h0, .inr (3, [.ref go, .ref gs, .ref ge, .ref gb, .int 0, .int 0, .int 0, .int 1000000]))] sz) t) (va_A [(h0, .inr (3, [.ref go, .ref gs, .ref ge, .ref gb, .int 0, .int 0, .int 0, .int 1000000]))] sz)) 0 0 (va_A [(h0, .inr (3, [.ref go, .ref gs, .ref ge, .ref gb, .int 0, .int 0, .int 0, .int 1000000]))] sz) := by
  refine Met.ofW (cc := cX1_putInOrder) (maxL := 7) (ret := (some .boolean)) (by decide +kernel) rfl ?_
  intro p e s m args below meth c s₁ B hml hv
  obtain ⟨rfl, hsz, hP, hK, hD0, hE, hX0⟩ := hv
  have hx := B.exec
  have hb := B.bytes
  have hr := B.returns
  have hts := z_E.ts (args := [.ref h0, .ref hu, .int 0].toArray) hE
  have hown : s.vm.findClass RX1 = some m.cls := findClass_of_methodNamed B.named
  have hlocks := B.notSynchronized
  subst hsz
  have hD := hD0.self (sz := s.heap.size)
  generalize hAe : va_A [(h0, .inr (3, [.ref go, .ref gs, .ref ge, .ref gb, .int 0, .int 0, .int 0, .int 1000000]))] s.heap.size = A at hD hX0 ⊢
  have hX : z_X D A s s.heap := hX0
  have hA : ∀ q : Nat, s.heap.size ≤ q → A q := fun q h => by rw [← hAe]; exact Or.inr h
  have hS : va_S A s.heap s.heap [] := va_S.rf
  have hP : va_P D vwCl [(h0, .inr (3, [.ref go, .ref gs, .ref ge, .ref gb, .int 0, .int 0, .int 0, .int 1000000]))] s.heap := hP
  have hl := lv_entry ([.ref h0, .ref hu, .int 0]) (n := 7) (Nat.le_of_ble_eq_true rfl)
  rw [lg_entry_eq]
  generalize (lg_sl ([.ref h0, .ref hu, .int 0]) ++ List.replicate (7 - (lg_sl ([.ref h0, .ref hu, .int 0])).length) Slot.unset).toArray = ls at hl ⊢
  have hl : lv_has ls 7 [(0, .ref h0), (1, .ref hu), (2, .int 0)] := hl
  skip
  refine lv_iconst (v := 0) hx hb dX1_putInOrder_0 (by decide) ?_
  refine lv_istore_n (lv' := [(3, .int 0), (0, .ref h0), (1, .ref hu), (2, .int 0)]) hx hb dX1_putInOrder_1 rfl hl (by decide) rfl (fun ls hl => ?_)
  refine lv_iload_n hx hb dX1_putInOrder_2 rfl (lv_at hl 0 rfl) ?_
  refine lv_aload_n hx hb dX1_putInOrder_3 rfl (lv_at hl 1 rfl) ?_
  refine va_get (D := D) (ci := 3) (v := .int 0) (C := RX1) (T := TX1) (N := 8) hx hb hts zin_X1 hown hK hP 0 rfl rfl 4 (by decide) (hts _ zw_148) (fun _ h9 => h9) rfl dX1_putInOrder_4 ?_
  refine lv_icmp_ge (tgt := 107) hx hb dX1_putInOrder_7 (by decide) (fun c_1 => ?_) (fun c_1 => absurd (by decide) c_1)
  refine lv_iconst (v := 1) hx hb dX1_putInOrder_107 (by decide) ?_
  exact W.zret (v := 1) hx hb hr (by first | rfl | decide) (fun t ht hW => ⟨⟨1, (), rfl, rfl, z_end hP hK hD [0] rfl rfl [] rfl ht hW.alike⟩, hS.F ht⟩) hS.2.2 dX1_putInOrder_108
theorem dX1_isBetter_0 : decode cX1_isBetter 0 = .ok (.aload_n 0, 1) := by decide +kernel
theorem dX1_isBetter_1 : decode cX1_isBetter 1 = .ok (.getfield 31, 3) := by decide +kernel
theorem dX1_isBetter_4 : decode cX1_isBetter 4 = .ok (.aload_n 0, 1) := by decide +kernel
theorem dX1_isBetter_5 : decode cX1_isBetter 5 = .ok (.getfield 34, 3) := by decide +kernel
theorem dX1_isBetter_8 : decode cX1_isBetter 8 = .ok (.if_icmp .eq 20, 3) := by decide +kernel
theorem dX1_isBetter_11 : decode cX1_isBetter 11 = .ok (.aload_n 0, 1) := by decide +kernel
theorem dX1_isBetter_12 : decode cX1_isBetter 12 = .ok (.getfield 31, 3) := by decide +kernel
theorem dX1_isBetter_15 : decode cX1_isBetter 15 = .ok (.aload_n 0, 1) := by decide +kernel
theorem dX1_isBetter_16 : decode cX1_isBetter 16 = .ok (.getfield 34, 3) := by decide +kernel
theorem dX1_isBetter_19 : decode cX1_isBetter 19 = .ok (.if_icmp .ge 7, 3) := by decide +kernel
theorem dX1_isBetter_22 : decode cX1_isBetter 22 = .ok (.iconst 1, 1) := by decide +kernel
theorem dX1_isBetter_23 : decode cX1_isBetter 23 = .ok (.goto 4, 3) := by decide +kernel
theorem dX1_isBetter_27 : decode cX1_isBetter 27 = .ok (.ireturn, 1) := by decide +kernel
set_option maxHeartbeats 4000000 in
set_option maxRecDepth 100000 in
theorem k_X1_isBetter (l : Launch) (D : va_G) (h0 : Nat) (go : Nat) (gs : Nat) (ge : Nat) (gb : Nat) (hu : Nat) (sz : Nat)  : Met l yX1_isBetter [Cond.code yX1_isBetter cX1_isBetter 4 (some .boolean)] ({ frames := 0, cells := 0, slots := 0, locals := 0 }) (z_Pc D [.ref h0, .ref hu, .int 0] [(h0, .inr (3, [.ref go, .ref gs, .ref ge, .ref gb, .int 0, .int 0, .int 0, .int 1000000]))] [] sz) (va_Qi (fun (r : Int32) (_ : Unit) => r = 1) (fun _ t => z_W D [(h0, .inr (3, [.ref go, .ref gs, .ref ge, .ref gb, .int 0, .int 0, .int 0, .int 1000000]))] [] (va_A [(h0, .inr (3, [.ref go, .ref gs, .ref ge, .ref gb, .int 0, .int 0, .int 0, .int 1000000]))] sz) t) (va_A [(h0, .inr (3, [.ref go, .ref gs, .ref ge, .ref gb, .int 0, .int 0, .int 0, .int 1000000]))] sz)) 0 0 (va_A [(h0, .inr (3, [.ref go, .ref gs, .ref ge, .ref gb, .int 0, .int 0, .int 0, .int 1000000]))] sz) := by
  refine Met.ofW (cc := cX1_isBetter) (maxL := 4) (ret := (some .boolean)) (by decide +kernel) rfl ?_
  intro p e s m args below meth c s₁ B hml hv
  obtain ⟨rfl, hsz, hP, hK, hD0, hE, hX0⟩ := hv
  have hx := B.exec
  have hb := B.bytes
  have hr := B.returns
  have hts := z_E.ts (args := [.ref h0, .ref hu, .int 0].toArray) hE
  have hown : s.vm.findClass RX1 = some m.cls := findClass_of_methodNamed B.named
  have hlocks := B.notSynchronized
  subst hsz
  have hD := hD0.self (sz := s.heap.size)
  generalize hAe : va_A [(h0, .inr (3, [.ref go, .ref gs, .ref ge, .ref gb, .int 0, .int 0, .int 0, .int 1000000]))] s.heap.size = A at hD hX0 ⊢
  have hX : z_X D A s s.heap := hX0
  have hA : ∀ q : Nat, s.heap.size ≤ q → A q := fun q h => by rw [← hAe]; exact Or.inr h
  have hS : va_S A s.heap s.heap [] := va_S.rf
  have hP : va_P D vwCl [(h0, .inr (3, [.ref go, .ref gs, .ref ge, .ref gb, .int 0, .int 0, .int 0, .int 1000000]))] s.heap := hP
  have hl := lv_entry ([.ref h0, .ref hu, .int 0]) (n := 4) (Nat.le_of_ble_eq_true rfl)
  rw [lg_entry_eq]
  generalize (lg_sl ([.ref h0, .ref hu, .int 0]) ++ List.replicate (4 - (lg_sl ([.ref h0, .ref hu, .int 0])).length) Slot.unset).toArray = ls at hl ⊢
  have hl : lv_has ls 4 [(0, .ref h0), (1, .ref hu), (2, .int 0)] := hl
  skip
  refine lv_aload_n hx hb dX1_isBetter_0 rfl (lv_at hl 0 rfl) ?_
  refine va_get (D := D) (ci := 3) (v := .int 0) (C := RX1) (T := TX1) (N := 8) hx hb hts zin_X1 hown hK hP 0 rfl rfl 6 (by decide) (hts _ zw_150) (fun _ h9 => h9) rfl dX1_isBetter_1 ?_
  refine lv_aload_n hx hb dX1_isBetter_4 rfl (lv_at hl 0 rfl) ?_
  refine va_get (D := D) (ci := 3) (v := .int 1000000) (C := RX1) (T := TX1) (N := 8) hx hb hts zin_X1 hown hK hP 0 rfl rfl 7 (by decide) (hts _ zw_151) (fun _ h9 => h9) rfl dX1_isBetter_5 ?_
  refine lv_icmp_eq (tgt := 28) hx hb dX1_isBetter_8 (by decide) (fun c_1 => absurd c_1 (by decide)) (fun c_1 => ?_)
  refine lv_aload_n hx hb dX1_isBetter_11 rfl (lv_at hl 0 rfl) ?_
  refine va_get (D := D) (ci := 3) (v := .int 0) (C := RX1) (T := TX1) (N := 8) hx hb hts zin_X1 hown hK hP 0 rfl rfl 6 (by decide) (hts _ zw_150) (fun _ h9 => h9) rfl dX1_isBetter_12 ?_
  refine lv_aload_n hx hb dX1_isBetter_15 rfl (lv_at hl 0 rfl) ?_
  refine va_get (D := D) (ci := 3) (v := .int 1000000) (C := RX1) (T := TX1) (N := 8) hx hb hts zin_X1 hown hK hP 0 rfl rfl 7 (by decide) (hts _ zw_151) (fun _ h9 => h9) rfl dX1_isBetter_16 ?_
  refine lv_icmp_ge (tgt := 26) hx hb dX1_isBetter_19 (by decide) (fun c_2 => absurd c_2 (by decide)) (fun c_2 => ?_)
  refine lv_iconst (v := 1) hx hb dX1_isBetter_22 (by decide) ?_
  refine lv_goto (tgt := 27) hx hb dX1_isBetter_23 (by decide) ?_
  exact W.zret (v := 1) hx hb hr (by first | rfl | decide) (fun t ht hW => ⟨⟨1, (), rfl, rfl, z_end hP hK hD [0] rfl rfl [] rfl ht hW.alike⟩, hS.F ht⟩) hS.2.2 dX1_isBetter_27
theorem dX1_nextOrder_0 : decode cX1_nextOrder 0 = .ok (.aload_n 0, 1) := by decide +kernel
theorem dX1_nextOrder_1 : decode cX1_nextOrder 1 = .ok (.getfield 24, 3) := by decide +kernel
theorem dX1_nextOrder_4 : decode cX1_nextOrder 4 = .ok (.iconst 2, 1) := by decide +kernel
theorem dX1_nextOrder_5 : decode cX1_nextOrder 5 = .ok (.isub, 1) := by decide +kernel
theorem dX1_nextOrder_6 : decode cX1_nextOrder 6 = .ok (.istore_n 1, 1) := by decide +kernel
theorem dX1_nextOrder_7 : decode cX1_nextOrder 7 = .ok (.iload_n 1, 1) := by decide +kernel
theorem dX1_nextOrder_8 : decode cX1_nextOrder 8 = .ok (.ifCond .lt 26, 3) := by decide +kernel
theorem dX1_nextOrder_34 : decode cX1_nextOrder 34 = .ok (.iload_n 1, 1) := by decide +kernel
theorem dX1_nextOrder_35 : decode cX1_nextOrder 35 = .ok (.ifCond .ge 5, 3) := by decide +kernel
theorem dX1_nextOrder_38 : decode cX1_nextOrder 38 = .ok (.iconst 0, 1) := by decide +kernel
theorem dX1_nextOrder_39 : decode cX1_nextOrder 39 = .ok (.ireturn, 1) := by decide +kernel
set_option maxHeartbeats 4000000 in
set_option maxRecDepth 100000 in
theorem k_X1_nextOrder (l : Launch) (D : va_G) (h0 : Nat) (go : Nat) (gs : Nat) (ge : Nat) (gb : Nat) (sz : Nat)  : Met l yX1_nextOrder [Cond.code yX1_nextOrder cX1_nextOrder 5 (some .boolean)] ({ frames := 0, cells := 0, slots := 0, locals := 0 }) (z_Pc D [.ref h0] [(h0, .inr (3, [.ref go, .ref gs, .ref ge, .ref gb, .int 0, .int 0, .int 0, .int 0]))] [] sz) (va_Qi (fun (r : Int32) (_ : Unit) => r = 0) (fun _ t => z_W D [(h0, .inr (3, [.ref go, .ref gs, .ref ge, .ref gb, .int 0, .int 0, .int 0, .int 0]))] [] (va_A [(h0, .inr (3, [.ref go, .ref gs, .ref ge, .ref gb, .int 0, .int 0, .int 0, .int 0]))] sz) t) (va_A [(h0, .inr (3, [.ref go, .ref gs, .ref ge, .ref gb, .int 0, .int 0, .int 0, .int 0]))] sz)) 0 0 (va_A [(h0, .inr (3, [.ref go, .ref gs, .ref ge, .ref gb, .int 0, .int 0, .int 0, .int 0]))] sz) := by
  refine Met.ofW (cc := cX1_nextOrder) (maxL := 5) (ret := (some .boolean)) (by decide +kernel) rfl ?_
  intro p e s m args below meth c s₁ B hml hv
  obtain ⟨rfl, hsz, hP, hK, hD0, hE, hX0⟩ := hv
  have hx := B.exec
  have hb := B.bytes
  have hr := B.returns
  have hts := z_E.ts (args := [.ref h0].toArray) hE
  have hown : s.vm.findClass RX1 = some m.cls := findClass_of_methodNamed B.named
  have hlocks := B.notSynchronized
  subst hsz
  have hD := hD0.self (sz := s.heap.size)
  generalize hAe : va_A [(h0, .inr (3, [.ref go, .ref gs, .ref ge, .ref gb, .int 0, .int 0, .int 0, .int 0]))] s.heap.size = A at hD hX0 ⊢
  have hX : z_X D A s s.heap := hX0
  have hA : ∀ q : Nat, s.heap.size ≤ q → A q := fun q h => by rw [← hAe]; exact Or.inr h
  have hS : va_S A s.heap s.heap [] := va_S.rf
  have hP : va_P D vwCl [(h0, .inr (3, [.ref go, .ref gs, .ref ge, .ref gb, .int 0, .int 0, .int 0, .int 0]))] s.heap := hP
  have hl := lv_entry ([.ref h0]) (n := 5) (Nat.le_of_ble_eq_true rfl)
  rw [lg_entry_eq]
  generalize (lg_sl ([.ref h0]) ++ List.replicate (5 - (lg_sl ([.ref h0])).length) Slot.unset).toArray = ls at hl ⊢
  have hl : lv_has ls 5 [(0, .ref h0)] := hl
  skip
  refine lv_aload_n hx hb dX1_nextOrder_0 rfl (lv_at hl 0 rfl) ?_
  refine va_get (D := D) (ci := 3) (v := .int 0) (C := RX1) (T := TX1) (N := 8) hx hb hts zin_X1 hown hK hP 0 rfl rfl 4 (by decide) (hts _ zw_148) (fun _ h9 => h9) rfl dX1_nextOrder_1 ?_
  refine lv_iconst (v := 2) hx hb dX1_nextOrder_4 (by decide) ?_
  refine lv_isub hx hb dX1_nextOrder_5 ?_
  refine lv_topi (fun x_1 ex_1 => ?_)
  obtain rfl : x_1 = (-2) := ex_1.trans (by first | rfl | decide | simp)
  refine lv_istore_n (lv' := [(1, .int (-2)), (0, .ref h0)]) hx hb dX1_nextOrder_6 rfl hl (by decide) rfl (fun ls hl => ?_)
  refine lv_iload_n hx hb dX1_nextOrder_7 rfl (lv_at hl 0 rfl) ?_
  refine lv_if_lt (tgt := 34) hx hb dX1_nextOrder_8 (by decide) (fun c_2 => ?_) (fun c_2 => absurd (by decide) c_2)
  refine lv_iload_n hx hb dX1_nextOrder_34 rfl (lv_at hl 0 rfl) ?_
  refine lv_if_ge (tgt := 40) hx hb dX1_nextOrder_35 (by decide) (fun c_3 => absurd c_3 (by decide)) (fun c_3 => ?_)
  refine lv_iconst (v := 0) hx hb dX1_nextOrder_38 (by decide) ?_
  exact W.zret (v := 0) hx hb hr (by first | rfl | decide) (fun t ht hW => ⟨⟨0, (), rfl, rfl, z_end hP hK hD [0] rfl rfl [] rfl ht hW.alike⟩, hS.F ht⟩) hS.2.2 dX1_nextOrder_39
theorem dX1_keep_0 : decode cX1_keep 0 = .ok (.aload_n 0, 1) := by decide +kernel
theorem dX1_keep_1 : decode cX1_keep 1 = .ok (.aload_n 0, 1) := by decide +kernel
theorem dX1_keep_2 : decode cX1_keep 2 = .ok (.getfield 31, 3) := by decide +kernel
theorem dX1_keep_5 : decode cX1_keep 5 = .ok (.putfield 34, 3) := by decide +kernel
theorem dX1_keep_8 : decode cX1_keep 8 = .ok (.aload_n 0, 1) := by decide +kernel
theorem dX1_keep_9 : decode cX1_keep 9 = .ok (.getfield 15, 3) := by decide +kernel
theorem dX1_keep_12 : decode cX1_keep 12 = .ok (.iconst 0, 1) := by decide +kernel
theorem dX1_keep_13 : decode cX1_keep 13 = .ok (.aload_n 0, 1) := by decide +kernel
theorem dX1_keep_14 : decode cX1_keep 14 = .ok (.getfield 21, 3) := by decide +kernel
theorem dX1_keep_17 : decode cX1_keep 17 = .ok (.iconst 0, 1) := by decide +kernel
theorem dX1_keep_18 : decode cX1_keep 18 = .ok (.bipush 10, 2) := by decide +kernel
theorem dX1_keep_20 : decode cX1_keep 20 = .ok (.invokestatic 112, 3) := by decide +kernel
theorem zw_982 : Cond.methodLink RX1 112 ⟨"java/lang/System", "arraycopy", "(Ljava/lang/Object;ILjava/lang/Object;II)V"⟩ ∈ z_Ts := z_m 982 (by decide +kernel) (by decide +kernel)
theorem zw_984 : Cond.native ⟨"java/lang/System", "arraycopy", "(Ljava/lang/Object;ILjava/lang/Object;II)V"⟩ ∈ z_Ts := z_m 984 (by decide +kernel) (by decide +kernel)
theorem zw_983 : Cond.static ⟨"java/lang/System", "arraycopy", "(Ljava/lang/Object;ILjava/lang/Object;II)V"⟩ ∈ z_Ts := z_m 983 (by decide +kernel) (by decide +kernel)
theorem zw_110 : Cond.initialized RJ10 ∈ z_Ts := z_m 110 (by decide +kernel) (by decide +kernel)
theorem dX1_keep_23 : decode cX1_keep 23 = .ok (.return_, 1) := by decide +kernel
set_option maxHeartbeats 4000000 in
set_option maxRecDepth 100000 in
theorem k_X1_keep (l : Launch) (D : va_G) (h0 : Nat) (go : Nat) (gs : Nat) (ge : Nat) (gb : Nat) (cS : ClassId) (cB : ClassId) (sz : Nat)  : Met l yX1_keep [Cond.code yX1_keep cX1_keep 1 none] ({ frames := 1, cells := 0, slots := 0, locals := 40 }) (z_Pc D [.ref h0] [(h0, .inr (3, [.ref go, .ref gs, .ref ge, .ref gb, .int 0, .int 0, .int 0, .int 1000000])), (gs, .inl (cS, 10, .inl (fun _ => 0))), (gb, .inl (cB, 10, .inl (fun _ => 0)))] [(cS, .int), (cB, .int)] sz) (va_Qv (fun _ : Unit => True) (fun _ t => z_W D [(h0, .inr (3, [.ref go, .ref gs, .ref ge, .ref gb, .int 0, .int 0, .int 0, .int 0]))] [] (va_A [(h0, .inr (3, [.ref go, .ref gs, .ref ge, .ref gb, .int 0, .int 0, .int 0, .int 1000000])), (gs, .inl (cS, 10, .inl (fun _ => 0))), (gb, .inl (cB, 10, .inl (fun _ => 0)))] sz) t) (va_A [(h0, .inr (3, [.ref go, .ref gs, .ref ge, .ref gb, .int 0, .int 0, .int 0, .int 1000000])), (gs, .inl (cS, 10, .inl (fun _ => 0))), (gb, .inl (cB, 10, .inl (fun _ => 0)))] sz)) 0 0 (va_A [(h0, .inr (3, [.ref go, .ref gs, .ref ge, .ref gb, .int 0, .int 0, .int 0, .int 1000000])), (gs, .inl (cS, 10, .inl (fun _ => 0))), (gb, .inl (cB, 10, .inl (fun _ => 0)))] sz) := by
  refine Met.ofW (cc := cX1_keep) (maxL := 1) (ret := none) (by decide +kernel) rfl ?_
  intro p e s m args below meth c s₁ B hml hv
  obtain ⟨rfl, hsz, hP, hK, hD0, hE, hX0⟩ := hv
  have hx := B.exec
  have hb := B.bytes
  have hr := B.returns
  have hts := z_E.ts (args := [.ref h0].toArray) hE
  have hown : s.vm.findClass RX1 = some m.cls := findClass_of_methodNamed B.named
  have hlocks := B.notSynchronized
  subst hsz
  have hD := hD0.self (sz := s.heap.size)
  generalize hAe : va_A [(h0, .inr (3, [.ref go, .ref gs, .ref ge, .ref gb, .int 0, .int 0, .int 0, .int 1000000])), (gs, .inl (cS, 10, .inl (fun _ => 0))), (gb, .inl (cB, 10, .inl (fun _ => 0)))] s.heap.size = A at hD hX0 ⊢
  have hX : z_X D A s s.heap := hX0
  have hA : ∀ q : Nat, s.heap.size ≤ q → A q := fun q h => by rw [← hAe]; exact Or.inr h
  have hS : va_S A s.heap s.heap [] := va_S.rf
  have hP : va_P D vwCl [(h0, .inr (3, [.ref go, .ref gs, .ref ge, .ref gb, .int 0, .int 0, .int 0, .int 1000000])), (gs, .inl (cS, 10, .inl (fun _ => 0))), (gb, .inl (cB, 10, .inl (fun _ => 0)))] s.heap := hP
  have hl := lv_entry ([.ref h0]) (n := 1) (Nat.le_of_ble_eq_true rfl)
  rw [lg_entry_eq]
  generalize (lg_sl ([.ref h0]) ++ List.replicate (1 - (lg_sl ([.ref h0])).length) Slot.unset).toArray = ls at hl ⊢
  have hl : lv_has ls 1 [(0, .ref h0)] := hl
  skip
  refine lv_aload_n hx hb dX1_keep_0 rfl (lv_at hl 0 rfl) ?_
  refine lv_aload_n hx hb dX1_keep_1 rfl (lv_at hl 0 rfl) ?_
  refine va_get (D := D) (ci := 3) (v := .int 0) (C := RX1) (T := TX1) (N := 8) hx hb hts zin_X1 hown hK hP 0 rfl rfl 6 (by decide) (hts _ zw_150) (fun _ h9 => h9) rfl dX1_keep_2 ?_
  refine va_put (D := D) (ci := 3) (v := .int 0) (ty := .int) (C := RX1) (T := TX1) (N := 8) hx hb hts zin_X1 tyX1 tyX1_ok nmX1 hown hK hP hD hS 0 rfl rfl 7 (by decide) (hts _ zw_151) (fun _ h9 => h9) rfl (by decide +kernel) rfl rfl (Nat.le_of_ble_eq_true rfl) dX1_keep_5 (fun H locs hP hD hS => ?_)
  have hP : va_P D vwCl [(h0, .inr (3, [.ref go, .ref gs, .ref ge, .ref gb, .int 0, .int 0, .int 0, .int 0])), (gs, .inl (cS, 10, .inl (fun _ => 0))), (gb, .inl (cB, 10, .inl (fun _ => 0)))] H := hP
  have hD : va_D A [(h0, .inr (3, [.ref go, .ref gs, .ref ge, .ref gb, .int 0, .int 0, .int 0, .int 0])), (gs, .inl (cS, 10, .inl (fun _ => 0))), (gb, .inl (cB, 10, .inl (fun _ => 0)))] := hD
  refine lv_aload_n hx hb dX1_keep_8 rfl (lv_at hl 0 rfl) ?_
  refine va_get (D := D) (ci := 3) (v := .ref gs) (C := RX1) (T := TX1) (N := 8) hx hb hts zin_X1 hown hK hP 0 rfl rfl 1 (by decide) (hts _ zw_144) (fun _ h9 => h9) rfl dX1_keep_9 ?_
  refine lv_iconst (v := 0) hx hb dX1_keep_12 (by decide) ?_
  refine lv_aload_n hx hb dX1_keep_13 rfl (lv_at hl 0 rfl) ?_
  refine va_get (D := D) (ci := 3) (v := .ref gb) (C := RX1) (T := TX1) (N := 8) hx hb hts zin_X1 hown hK hP 0 rfl rfl 3 (by decide) (hts _ zw_146) (fun _ h9 => h9) rfl dX1_keep_14 ?_
  refine lv_iconst (v := 0) hx hb dX1_keep_17 (by decide) ?_
  refine lv_bipush (v := 10) hx hb dX1_keep_18 (by decide) ?_
  refine va_copyi (sp := 0) (dp := 0) (n := 10) hx hb (hml.trans hl.1.symm) hown (hts _ zw_982) (hts _ zw_984) (hts _ zw_983) (hts _ zw_110) hK hP hD hS 1 2 0 1 rfl rfl rfl rfl rfl (by decide) (by decide) (by decide) (by decide) (by decide) (fun i _ => rfl) (Nat.le_of_ble_eq_true rfl) (by decide) dX1_keep_20 (fun H locs hP hD hS => ?_)
  have hP : va_P D vwCl [(h0, .inr (3, [.ref go, .ref gs, .ref ge, .ref gb, .int 0, .int 0, .int 0, .int 0])), (gs, .inl (cS, 10, .inl (fun _ => 0))), (gb, .inl (cB, 10, .inl (va_cpy (fun _ => 0) (fun _ => 0) (0 : Int32).toNatClampNeg (0 : Int32).toNatClampNeg (10 : Int32).toNatClampNeg)))] H := hP
  have hD : va_D A [(h0, .inr (3, [.ref go, .ref gs, .ref ge, .ref gb, .int 0, .int 0, .int 0, .int 0])), (gs, .inl (cS, 10, .inl (fun _ => 0))), (gb, .inl (cB, 10, .inl (va_cpy (fun _ => 0) (fun _ => 0) (0 : Int32).toNatClampNeg (0 : Int32).toNatClampNeg (10 : Int32).toNatClampNeg)))] := hD
  exact W.vret hx hb hr (fun t ht hW => ⟨⟨(), rfl, trivial, z_end hP hK hD [0] rfl rfl [] rfl ht hW.alike⟩, hS.F ht⟩) hS.2.2 dX1_keep_23
theorem dX1_seek_0 : decode cX1_seek 0 = .ok (.aload_n 0, 1) := by decide +kernel
theorem dX1_seek_1 : decode cX1_seek 1 = .ok (.iconst 0, 1) := by decide +kernel
theorem dX1_seek_2 : decode cX1_seek 2 = .ok (.putfield 24, 3) := by decide +kernel
theorem dX1_seek_5 : decode cX1_seek 5 = .ok (.iconst 0, 1) := by decide +kernel
theorem dX1_seek_6 : decode cX1_seek 6 = .ok (.istore_n 3, 1) := by decide +kernel
theorem dX1_seek_7 : decode cX1_seek 7 = .ok (.iload_n 3, 1) := by decide +kernel
theorem dX1_seek_8 : decode cX1_seek 8 = .ok (.iload_n 2, 1) := by decide +kernel
theorem dX1_seek_9 : decode cX1_seek 9 = .ok (.if_icmp .ge 46, 3) := by decide +kernel
theorem dX1_seek_55 : decode cX1_seek 55 = .ok (.aload_n 0, 1) := by decide +kernel
theorem dX1_seek_56 : decode cX1_seek 56 = .ok (.ldc 43, 2) := by decide +kernel
theorem zw_940 : Cond.constant RX1 43 1000000 ∈ z_Ts := z_m 940 (by decide +kernel) (by decide +kernel)
theorem dX1_seek_58 : decode cX1_seek 58 = .ok (.putfield 34, 3) := by decide +kernel
theorem dX1_seek_61 : decode cX1_seek 61 = .ok (.iconst 1, 1) := by decide +kernel
theorem dX1_seek_62 : decode cX1_seek 62 = .ok (.istore_n 3, 1) := by decide +kernel
theorem dX1_seek_63 : decode cX1_seek 63 = .ok (.iconst 0, 1) := by decide +kernel
theorem dX1_seek_64 : decode cX1_seek 64 = .ok (.istore 4, 2) := by decide +kernel
theorem dX1_seek_66 : decode cX1_seek 66 = .ok (.iload 4, 2) := by decide +kernel
theorem dX1_seek_68 : decode cX1_seek 68 = .ok (.bipush 120, 2) := by decide +kernel
theorem dX1_seek_70 : decode cX1_seek 70 = .ok (.if_icmp .ge 46, 3) := by decide +kernel
theorem dX1_seek_73 : decode cX1_seek 73 = .ok (.iload_n 3, 1) := by decide +kernel
theorem dX1_seek_74 : decode cX1_seek 74 = .ok (.ifCond .eq 42, 3) := by decide +kernel
theorem dX1_seek_77 : decode cX1_seek 77 = .ok (.aload_n 0, 1) := by decide +kernel
theorem dX1_seek_78 : decode cX1_seek 78 = .ok (.aload_n 1, 1) := by decide +kernel
theorem dX1_seek_79 : decode cX1_seek 79 = .ok (.iload_n 2, 1) := by decide +kernel
theorem dX1_seek_80 : decode cX1_seek 80 = .ok (.invokevirtual 44, 3) := by decide +kernel
theorem zw_941 : Cond.methodLink RX1 44 yX1_putWorksOn ∈ z_Ts := z_m 941 (by decide +kernel) (by decide +kernel)
theorem zw_943 : Cond.instanceMethod yX1_putWorksOn ∈ z_Ts := z_m 943 (by decide +kernel) (by decide +kernel)
theorem zw_47 : Cond.selects RX1 yX1_putWorksOn yX1_putWorksOn ∈ z_Ts := z_m 47 (by decide +kernel) (by decide +kernel)
theorem zw_944 : Cond.code yX1_putWorksOn cX1_putWorksOn 4 none ∈ z_Ts := z_m 944 (by decide +kernel) (by decide +kernel)
theorem dX1_seek_83 : decode cX1_seek 83 = .ok (.aload_n 0, 1) := by decide +kernel
theorem dX1_seek_84 : decode cX1_seek 84 = .ok (.aload_n 1, 1) := by decide +kernel
theorem dX1_seek_85 : decode cX1_seek 85 = .ok (.iload_n 2, 1) := by decide +kernel
theorem dX1_seek_86 : decode cX1_seek 86 = .ok (.invokevirtual 48, 3) := by decide +kernel
theorem zw_952 : Cond.methodLink RX1 48 yX1_putInOrder ∈ z_Ts := z_m 952 (by decide +kernel) (by decide +kernel)
theorem zw_954 : Cond.instanceMethod yX1_putInOrder ∈ z_Ts := z_m 954 (by decide +kernel) (by decide +kernel)
theorem zw_49 : Cond.selects RX1 yX1_putInOrder yX1_putInOrder ∈ z_Ts := z_m 49 (by decide +kernel) (by decide +kernel)
theorem zw_955 : Cond.code yX1_putInOrder cX1_putInOrder 7 (some .boolean) ∈ z_Ts := z_m 955 (by decide +kernel) (by decide +kernel)
theorem dX1_seek_89 : decode cX1_seek 89 = .ok (.ifCond .eq 16, 3) := by decide +kernel
theorem dX1_seek_92 : decode cX1_seek 92 = .ok (.aload_n 0, 1) := by decide +kernel
theorem dX1_seek_93 : decode cX1_seek 93 = .ok (.aload_n 1, 1) := by decide +kernel
theorem dX1_seek_94 : decode cX1_seek 94 = .ok (.iload_n 2, 1) := by decide +kernel
theorem dX1_seek_95 : decode cX1_seek 95 = .ok (.invokevirtual 52, 3) := by decide +kernel
theorem zw_974 : Cond.methodLink RX1 52 yX1_isBetter ∈ z_Ts := z_m 974 (by decide +kernel) (by decide +kernel)
theorem zw_976 : Cond.instanceMethod yX1_isBetter ∈ z_Ts := z_m 976 (by decide +kernel) (by decide +kernel)
theorem zw_54 : Cond.selects RX1 yX1_isBetter yX1_isBetter ∈ z_Ts := z_m 54 (by decide +kernel) (by decide +kernel)
theorem zw_977 : Cond.code yX1_isBetter cX1_isBetter 4 (some .boolean) ∈ z_Ts := z_m 977 (by decide +kernel) (by decide +kernel)
theorem dX1_seek_98 : decode cX1_seek 98 = .ok (.ifCond .eq 7, 3) := by decide +kernel
theorem dX1_seek_101 : decode cX1_seek 101 = .ok (.aload_n 0, 1) := by decide +kernel
theorem dX1_seek_102 : decode cX1_seek 102 = .ok (.invokevirtual 55, 3) := by decide +kernel
theorem zw_978 : Cond.methodLink RX1 55 yX1_keep ∈ z_Ts := z_m 978 (by decide +kernel) (by decide +kernel)
theorem zw_980 : Cond.instanceMethod yX1_keep ∈ z_Ts := z_m 980 (by decide +kernel) (by decide +kernel)
theorem zw_55 : Cond.selects RX1 yX1_keep yX1_keep ∈ z_Ts := z_m 55 (by decide +kernel) (by decide +kernel)
theorem zw_981 : Cond.code yX1_keep cX1_keep 1 none ∈ z_Ts := z_m 981 (by decide +kernel) (by decide +kernel)
theorem dX1_seek_105 : decode cX1_seek 105 = .ok (.aload_n 0, 1) := by decide +kernel
theorem dX1_seek_106 : decode cX1_seek 106 = .ok (.invokevirtual 58, 3) := by decide +kernel
theorem zw_985 : Cond.methodLink RX1 58 yX1_nextOrder ∈ z_Ts := z_m 985 (by decide +kernel) (by decide +kernel)
theorem zw_987 : Cond.instanceMethod yX1_nextOrder ∈ z_Ts := z_m 987 (by decide +kernel) (by decide +kernel)
theorem zw_56 : Cond.selects RX1 yX1_nextOrder yX1_nextOrder ∈ z_Ts := z_m 56 (by decide +kernel) (by decide +kernel)
theorem zw_988 : Cond.code yX1_nextOrder cX1_nextOrder 5 (some .boolean) ∈ z_Ts := z_m 988 (by decide +kernel) (by decide +kernel)
theorem dX1_seek_109 : decode cX1_seek 109 = .ok (.istore_n 3, 1) := by decide +kernel
theorem dX1_seek_110 : decode cX1_seek 110 = .ok (.iinc 4 1, 3) := by decide +kernel
theorem dX1_seek_113 : decode cX1_seek 113 = .ok (.goto (-47), 3) := by decide +kernel
theorem dX1_seek_116 : decode cX1_seek 116 = .ok (.return_, 1) := by decide +kernel
set_option maxHeartbeats 4000000 in
set_option maxRecDepth 100000 in
theorem k_X1_seek (l : Launch) (D : va_G) (h0 : Nat) (go : Nat) (gs : Nat) (ge : Nat) (gb : Nat) (cS : ClassId) (cB : ClassId) (hu : Nat) (sz : Nat)  : Met l yX1_seek [Cond.code yX1_seek cX1_seek 5 none] ({ frames := 2, cells := 0, slots := 0, locals := 90 }) (z_Pc D [.ref h0, .ref hu, .int 0] [(h0, .inr (3, [.ref go, .ref gs, .ref ge, .ref gb, .int 0, .int 0, .int 0, .int 0])), (gs, .inl (cS, 10, .inl (fun _ => 0))), (gb, .inl (cB, 10, .inl (fun _ => 0)))] [(cS, .int), (cB, .int)] sz) (va_Qv (fun _ : Unit => True) (fun _ t => z_W D [(h0, .inr (3, [.ref go, .ref gs, .ref ge, .ref gb, .int 0, .int 0, .int 0, .int 0]))] [] (va_A [(h0, .inr (3, [.ref go, .ref gs, .ref ge, .ref gb, .int 0, .int 0, .int 0, .int 0])), (gs, .inl (cS, 10, .inl (fun _ => 0))), (gb, .inl (cB, 10, .inl (fun _ => 0)))] sz) t) (va_A [(h0, .inr (3, [.ref go, .ref gs, .ref ge, .ref gb, .int 0, .int 0, .int 0, .int 0])), (gs, .inl (cS, 10, .inl (fun _ => 0))), (gb, .inl (cB, 10, .inl (fun _ => 0)))] sz)) 0 0 (va_A [(h0, .inr (3, [.ref go, .ref gs, .ref ge, .ref gb, .int 0, .int 0, .int 0, .int 0])), (gs, .inl (cS, 10, .inl (fun _ => 0))), (gb, .inl (cB, 10, .inl (fun _ => 0)))] sz) := by
  refine Met.ofW (cc := cX1_seek) (maxL := 5) (ret := none) (by decide +kernel) rfl ?_
  intro p e s m args below meth c s₁ B hml hv
  obtain ⟨rfl, hsz, hP, hK, hD0, hE, hX0⟩ := hv
  have hx := B.exec
  have hb := B.bytes
  have hr := B.returns
  have hts := z_E.ts (args := [.ref h0, .ref hu, .int 0].toArray) hE
  have hown : s.vm.findClass RX1 = some m.cls := findClass_of_methodNamed B.named
  have hlocks := B.notSynchronized
  subst hsz
  have hD := hD0.self (sz := s.heap.size)
  generalize hAe : va_A [(h0, .inr (3, [.ref go, .ref gs, .ref ge, .ref gb, .int 0, .int 0, .int 0, .int 0])), (gs, .inl (cS, 10, .inl (fun _ => 0))), (gb, .inl (cB, 10, .inl (fun _ => 0)))] s.heap.size = A at hD hX0 ⊢
  have hX : z_X D A s s.heap := hX0
  have hA : ∀ q : Nat, s.heap.size ≤ q → A q := fun q h => by rw [← hAe]; exact Or.inr h
  have hS : va_S A s.heap s.heap [] := va_S.rf
  have hP : va_P D vwCl [(h0, .inr (3, [.ref go, .ref gs, .ref ge, .ref gb, .int 0, .int 0, .int 0, .int 0])), (gs, .inl (cS, 10, .inl (fun _ => 0))), (gb, .inl (cB, 10, .inl (fun _ => 0)))] s.heap := hP
  have hl := lv_entry ([.ref h0, .ref hu, .int 0]) (n := 5) (Nat.le_of_ble_eq_true rfl)
  rw [lg_entry_eq]
  generalize (lg_sl ([.ref h0, .ref hu, .int 0]) ++ List.replicate (5 - (lg_sl ([.ref h0, .ref hu, .int 0])).length) Slot.unset).toArray = ls at hl ⊢
  have hl : lv_has ls 5 [(0, .ref h0), (1, .ref hu), (2, .int 0)] := hl
  skip
  refine lv_aload_n hx hb dX1_seek_0 rfl (lv_at hl 0 rfl) ?_
  refine lv_iconst (v := 0) hx hb dX1_seek_1 (by decide) ?_
  refine va_put (D := D) (ci := 3) (v := .int 0) (ty := .int) (C := RX1) (T := TX1) (N := 8) hx hb hts zin_X1 tyX1 tyX1_ok nmX1 hown hK hP hD hS 0 rfl rfl 4 (by decide) (hts _ zw_148) (fun _ h9 => h9) rfl (by decide +kernel) rfl rfl (Nat.le_of_ble_eq_true rfl) dX1_seek_2 (fun H locs hP hD hS => ?_)
  have hP : va_P D vwCl [(h0, .inr (3, [.ref go, .ref gs, .ref ge, .ref gb, .int 0, .int 0, .int 0, .int 0])), (gs, .inl (cS, 10, .inl (fun _ => 0))), (gb, .inl (cB, 10, .inl (fun _ => 0)))] H := hP
  have hD : va_D A [(h0, .inr (3, [.ref go, .ref gs, .ref ge, .ref gb, .int 0, .int 0, .int 0, .int 0])), (gs, .inl (cS, 10, .inl (fun _ => 0))), (gb, .inl (cB, 10, .inl (fun _ => 0)))] := hD
  refine lv_iconst (v := 0) hx hb dX1_seek_5 (by decide) ?_
  refine lv_istore_n (lv' := [(3, .int 0), (0, .ref h0), (1, .ref hu), (2, .int 0)]) hx hb dX1_seek_6 rfl hl (by decide) rfl (fun ls hl => ?_)
  refine lv_iload_n hx hb dX1_seek_7 rfl (lv_at hl 0 rfl) ?_
  refine lv_iload_n hx hb dX1_seek_8 rfl (lv_at hl 3 rfl) ?_
  refine lv_icmp_ge (tgt := 55) hx hb dX1_seek_9 (by decide) (fun c_1 => ?_) (fun c_1 => absurd (by decide) c_1)
  refine lv_aload_n hx hb dX1_seek_55 rfl (lv_at hl 1 rfl) ?_
  refine lv_ldc hx hb hown (hts _ zw_940) dX1_seek_56 ?_
  refine va_put (D := D) (ci := 3) (v := .int 1000000) (ty := .int) (C := RX1) (T := TX1) (N := 8) hx hb hts zin_X1 tyX1 tyX1_ok nmX1 hown hK hP hD hS 0 rfl rfl 7 (by decide) (hts _ zw_151) (fun _ h9 => h9) rfl (by decide +kernel) rfl rfl (Nat.le_of_ble_eq_true rfl) dX1_seek_58 (fun H locs hP hD hS => ?_)
  have hP : va_P D vwCl [(h0, .inr (3, [.ref go, .ref gs, .ref ge, .ref gb, .int 0, .int 0, .int 0, .int 1000000])), (gs, .inl (cS, 10, .inl (fun _ => 0))), (gb, .inl (cB, 10, .inl (fun _ => 0)))] H := hP
  have hD : va_D A [(h0, .inr (3, [.ref go, .ref gs, .ref ge, .ref gb, .int 0, .int 0, .int 0, .int 1000000])), (gs, .inl (cS, 10, .inl (fun _ => 0))), (gb, .inl (cB, 10, .inl (fun _ => 0)))] := hD
  refine lv_iconst (v := 1) hx hb dX1_seek_61 (by decide) ?_
  refine lv_istore_n (lv' := [(3, .int 1), (0, .ref h0), (1, .ref hu), (2, .int 0)]) hx hb dX1_seek_62 rfl hl (by decide) rfl (fun ls hl => ?_)
  refine lv_iconst (v := 0) hx hb dX1_seek_63 (by decide) ?_
  refine lv_istore (lv' := [(4, .int 0), (3, .int 1), (0, .ref h0), (1, .ref hu), (2, .int 0)]) hx hb dX1_seek_64 hl (by decide) rfl (fun ls hl => ?_)
  refine lv_iload hx hb dX1_seek_66 (lv_at hl 0 rfl) ?_
  refine lv_bipush (v := 120) hx hb dX1_seek_68 (by decide) ?_
  refine lv_icmp_ge (tgt := 116) hx hb dX1_seek_70 (by decide) (fun c_2 => absurd c_2 (by decide)) (fun c_2 => ?_)
  refine lv_iload_n hx hb dX1_seek_73 rfl (lv_at hl 1 rfl) ?_
  refine lv_if_eq (tgt := 116) hx hb dX1_seek_74 (by decide) (fun c_3 => absurd c_3 (by decide)) (fun c_3 => ?_)
  refine lv_aload_n hx hb dX1_seek_77 rfl (lv_at hl 2 rfl) ?_
  refine lv_aload_n hx hb dX1_seek_78 rfl (lv_at hl 3 rfl) ?_
  refine lv_iload_n hx hb dX1_seek_79 rfl (lv_at hl 4 rfl) ?_
  obtain ⟨hb_4, hc_4⟩ := z_call (wc := [(h0, .inr (3, [.ref go, .ref gs, .ref ge, .ref gb, .int 0, .int 0, .int 0, .int 1000000]))]) (tc := []) ([.ref h0, .ref hu, .int 0]) hP hK hD hS hA hE hX [0] rfl rfl [] rfl
  have hF_4 := va_free (wc := [(h0, .inr (3, [.ref go, .ref gs, .ref ge, .ref gb, .int 0, .int 0, .int 0, .int 1000000]))]) hD hS hA [0] rfl
  refine va_callv (va_runV (As := [.ref hu, .int 0]) (rest := []) ⟨hx, hb, hml, hown, hts⟩ (k_X1_putWorksOn l D h0 go gs ge gb hu _ ) (z_cV 2 hE zw_941 zw_943 zw_47 zw_92 zw_944 rfl rfl rfl (by decide +kernel) ⟨(Nat.le_of_ble_eq_true rfl), (Nat.le_of_ble_eq_true rfl)⟩) ⟨hb_4, va_recv hK hP (ci := 3) (q0 := 0) rfl rfl, hc_4⟩ rfl rfl hl.1 rfl (lv_room (Nat.le_of_ble_eq_true rfl)) dX1_seek_80 ⟨(Nat.le_of_ble_eq_true rfl), (Nat.le_of_ble_eq_true rfl)⟩) hS (fun q _ h => hF_4 q h) hF_4 (fun u_4 t_4 H1 locs ht_4 hvm_4 hw_4 hB_4 hz_4 hk_4 hS1 => ?_)
  obtain ⟨hP, hK, hD⟩ := z_back (wc := [(h0, .inr (3, [.ref go, .ref gs, .ref ge, .ref gb, .int 0, .int 0, .int 0, .int 1000000]))]) (wr := [(gs, .inl (cS, 10, .inl (fun _ => 0))), (gb, .inl (cB, 10, .inl (fun _ => 0)))]) (w1 := [(h0, .inr (3, [.ref go, .ref gs, .ref ge, .ref gb, .int 0, .int 0, .int 0, .int 1000000]))]) (tr := [(cS, .int), (cB, .int)]) hP hK hD [0] [1, 2] rfl rfl rfl (by decide) ht_4 hvm_4 hk_4 hF_4 [0, 1] rfl hB_4
  have hS := hS1
  have hP : va_P D vwCl [(gs, .inl (cS, 10, .inl (fun _ => 0))), (gb, .inl (cB, 10, .inl (fun _ => 0))), (h0, .inr (3, [.ref go, .ref gs, .ref ge, .ref gb, .int 0, .int 0, .int 0, .int 1000000]))] H1 := hP
  have hD : va_D A [(gs, .inl (cS, 10, .inl (fun _ => 0))), (gb, .inl (cB, 10, .inl (fun _ => 0))), (h0, .inr (3, [.ref go, .ref gs, .ref ge, .ref gb, .int 0, .int 0, .int 0, .int 1000000]))] := hD
  have hK : va_K D vwCl [(cS, .int), (cB, .int)] s := hK
  clear hS1
  refine lv_aload_n hx hb dX1_seek_83 rfl (lv_at hl 2 rfl) ?_
  refine lv_aload_n hx hb dX1_seek_84 rfl (lv_at hl 3 rfl) ?_
  refine lv_iload_n hx hb dX1_seek_85 rfl (lv_at hl 4 rfl) ?_
  obtain ⟨hb_5, hc_5⟩ := z_call (wc := [(h0, .inr (3, [.ref go, .ref gs, .ref ge, .ref gb, .int 0, .int 0, .int 0, .int 1000000]))]) (tc := []) ([.ref h0, .ref hu, .int 0]) hP hK hD hS hA hE hX [2] rfl rfl [] rfl
  have hF_5 := va_free (wc := [(h0, .inr (3, [.ref go, .ref gs, .ref ge, .ref gb, .int 0, .int 0, .int 0, .int 1000000]))]) hD hS hA [2] rfl
  refine va_calli (va_runV (As := [.ref hu, .int 0]) (rest := []) ⟨hx, hb, hml, hown, hts⟩ (k_X1_putInOrder l D h0 go gs ge gb hu _ ) (z_cV 2 hE zw_952 zw_954 zw_49 zw_92 zw_955 rfl rfl rfl (by decide +kernel) ⟨(Nat.le_of_ble_eq_true rfl), (Nat.le_of_ble_eq_true rfl)⟩) ⟨hb_5, va_recv hK hP (ci := 3) (q0 := 2) rfl rfl, hc_5⟩ rfl rfl hl.1 rfl (lv_room (Nat.le_of_ble_eq_true rfl)) dX1_seek_86 ⟨(Nat.le_of_ble_eq_true rfl), (Nat.le_of_ble_eq_true rfl)⟩) hS (fun q _ h => hF_5 q h) hF_5 (fun r_5 u_5 t_5 H1 locs ht_5 hvm_5 hw_5 hB_5 hz_5 hk_5 hS1 => ?_)
  obtain ⟨hP, hK, hD⟩ := z_back (wc := [(h0, .inr (3, [.ref go, .ref gs, .ref ge, .ref gb, .int 0, .int 0, .int 0, .int 1000000]))]) (wr := [(gs, .inl (cS, 10, .inl (fun _ => 0))), (gb, .inl (cB, 10, .inl (fun _ => 0)))]) (w1 := [(h0, .inr (3, [.ref go, .ref gs, .ref ge, .ref gb, .int 0, .int 0, .int 0, .int 1000000]))]) (tr := [(cS, .int), (cB, .int)]) hP hK hD [2] [0, 1] rfl rfl rfl (by decide) ht_5 hvm_5 hk_5 hF_5 [0, 1] rfl hB_5
  have hS := hS1
  have hP : va_P D vwCl [(gs, .inl (cS, 10, .inl (fun _ => 0))), (gb, .inl (cB, 10, .inl (fun _ => 0))), (h0, .inr (3, [.ref go, .ref gs, .ref ge, .ref gb, .int 0, .int 0, .int 0, .int 1000000]))] H1 := hP
  have hD : va_D A [(gs, .inl (cS, 10, .inl (fun _ => 0))), (gb, .inl (cB, 10, .inl (fun _ => 0))), (h0, .inr (3, [.ref go, .ref gs, .ref ge, .ref gb, .int 0, .int 0, .int 0, .int 1000000]))] := hD
  have hK : va_K D vwCl [(cS, .int), (cB, .int)] s := hK
  clear hS1
  obtain rfl : r_5 = 1 := hw_5
  refine lv_if_eq (tgt := 105) hx hb dX1_seek_89 (by decide) (fun c_6 => absurd c_6 (by decide)) (fun c_6 => ?_)
  refine lv_aload_n hx hb dX1_seek_92 rfl (lv_at hl 2 rfl) ?_
  refine lv_aload_n hx hb dX1_seek_93 rfl (lv_at hl 3 rfl) ?_
  refine lv_iload_n hx hb dX1_seek_94 rfl (lv_at hl 4 rfl) ?_
  obtain ⟨hb_7, hc_7⟩ := z_call (wc := [(h0, .inr (3, [.ref go, .ref gs, .ref ge, .ref gb, .int 0, .int 0, .int 0, .int 1000000]))]) (tc := []) ([.ref h0, .ref hu, .int 0]) hP hK hD hS hA hE hX [2] rfl rfl [] rfl
  have hF_7 := va_free (wc := [(h0, .inr (3, [.ref go, .ref gs, .ref ge, .ref gb, .int 0, .int 0, .int 0, .int 1000000]))]) hD hS hA [2] rfl
  refine va_calli (va_runV (As := [.ref hu, .int 0]) (rest := []) ⟨hx, hb, hml, hown, hts⟩ (k_X1_isBetter l D h0 go gs ge gb hu _ ) (z_cV 2 hE zw_974 zw_976 zw_54 zw_92 zw_977 rfl rfl rfl (by decide +kernel) ⟨(Nat.le_of_ble_eq_true rfl), (Nat.le_of_ble_eq_true rfl)⟩) ⟨hb_7, va_recv hK hP (ci := 3) (q0 := 2) rfl rfl, hc_7⟩ rfl rfl hl.1 rfl (lv_room (Nat.le_of_ble_eq_true rfl)) dX1_seek_95 ⟨(Nat.le_of_ble_eq_true rfl), (Nat.le_of_ble_eq_true rfl)⟩) hS (fun q _ h => hF_7 q h) hF_7 (fun r_7 u_7 t_7 H1 locs ht_7 hvm_7 hw_7 hB_7 hz_7 hk_7 hS1 => ?_)
  obtain ⟨hP, hK, hD⟩ := z_back (wc := [(h0, .inr (3, [.ref go, .ref gs, .ref ge, .ref gb, .int 0, .int 0, .int 0, .int 1000000]))]) (wr := [(gs, .inl (cS, 10, .inl (fun _ => 0))), (gb, .inl (cB, 10, .inl (fun _ => 0)))]) (w1 := [(h0, .inr (3, [.ref go, .ref gs, .ref ge, .ref gb, .int 0, .int 0, .int 0, .int 1000000]))]) (tr := [(cS, .int), (cB, .int)]) hP hK hD [2] [0, 1] rfl rfl rfl (by decide) ht_7 hvm_7 hk_7 hF_7 [0, 1] rfl hB_7
  have hS := hS1
  have hP : va_P D vwCl [(gs, .inl (cS, 10, .inl (fun _ => 0))), (gb, .inl (cB, 10, .inl (fun _ => 0))), (h0, .inr (3, [.ref go, .ref gs, .ref ge, .ref gb, .int 0, .int 0, .int 0, .int 1000000]))] H1 := hP
  have hD : va_D A [(gs, .inl (cS, 10, .inl (fun _ => 0))), (gb, .inl (cB, 10, .inl (fun _ => 0))), (h0, .inr (3, [.ref go, .ref gs, .ref ge, .ref gb, .int 0, .int 0, .int 0, .int 1000000]))] := hD
  have hK : va_K D vwCl [(cS, .int), (cB, .int)] s := hK
  clear hS1
  obtain rfl : r_7 = 1 := hw_7
  refine lv_if_eq (tgt := 105) hx hb dX1_seek_98 (by decide) (fun c_8 => absurd c_8 (by decide)) (fun c_8 => ?_)
  refine lv_aload_n hx hb dX1_seek_101 rfl (lv_at hl 2 rfl) ?_
  obtain ⟨hb_9, hc_9⟩ := z_call (wc := [(h0, .inr (3, [.ref go, .ref gs, .ref ge, .ref gb, .int 0, .int 0, .int 0, .int 1000000])), (gs, .inl (cS, 10, .inl (fun _ => 0))), (gb, .inl (cB, 10, .inl (fun _ => 0)))]) (tc := [(cS, .int), (cB, .int)]) ([.ref h0]) hP hK hD hS hA hE hX [2, 0, 1] rfl rfl [0, 1] rfl
  have hF_9 := va_free (wc := [(h0, .inr (3, [.ref go, .ref gs, .ref ge, .ref gb, .int 0, .int 0, .int 0, .int 1000000])), (gs, .inl (cS, 10, .inl (fun _ => 0))), (gb, .inl (cB, 10, .inl (fun _ => 0)))]) hD hS hA [2, 0, 1] rfl
  refine va_callv (va_runV (As := []) (rest := []) ⟨hx, hb, hml, hown, hts⟩ (k_X1_keep l D h0 go gs ge gb cS cB _ ) (z_cV 0 hE zw_978 zw_980 zw_55 zw_92 zw_981 rfl rfl rfl (by decide +kernel) ⟨(Nat.le_of_ble_eq_true rfl), (Nat.le_of_ble_eq_true rfl)⟩) ⟨hb_9, va_recv hK hP (ci := 3) (q0 := 2) rfl rfl, hc_9⟩ rfl rfl hl.1 rfl (lv_room (Nat.le_of_ble_eq_true rfl)) dX1_seek_102 ⟨(Nat.le_of_ble_eq_true rfl), (Nat.le_of_ble_eq_true rfl)⟩) hS (fun q _ h => hF_9 q h) hF_9 (fun u_9 t_9 H1 locs ht_9 hvm_9 hw_9 hB_9 hz_9 hk_9 hS1 => ?_)
  obtain ⟨hP, hK, hD⟩ := z_back (wc := [(h0, .inr (3, [.ref go, .ref gs, .ref ge, .ref gb, .int 0, .int 0, .int 0, .int 1000000])), (gs, .inl (cS, 10, .inl (fun _ => 0))), (gb, .inl (cB, 10, .inl (fun _ => 0)))]) (wr := []) (w1 := [(h0, .inr (3, [.ref go, .ref gs, .ref ge, .ref gb, .int 0, .int 0, .int 0, .int 0]))]) (tr := []) hP hK hD [2, 0, 1] [] rfl rfl rfl (by decide) ht_9 hvm_9 hk_9 hF_9 [] rfl hB_9
  have hS := hS1
  have hP : va_P D vwCl [(h0, .inr (3, [.ref go, .ref gs, .ref ge, .ref gb, .int 0, .int 0, .int 0, .int 0]))] H1 := hP
  have hD : va_D A [(h0, .inr (3, [.ref go, .ref gs, .ref ge, .ref gb, .int 0, .int 0, .int 0, .int 0]))] := hD
  have hK : va_K D vwCl [] s := hK
  clear hS1
  refine lv_aload_n hx hb dX1_seek_105 rfl (lv_at hl 2 rfl) ?_
  obtain ⟨hb_10, hc_10⟩ := z_call (wc := [(h0, .inr (3, [.ref go, .ref gs, .ref ge, .ref gb, .int 0, .int 0, .int 0, .int 0]))]) (tc := []) ([.ref h0]) hP hK hD hS hA hE hX [0] rfl rfl [] rfl
  have hF_10 := va_free (wc := [(h0, .inr (3, [.ref go, .ref gs, .ref ge, .ref gb, .int 0, .int 0, .int 0, .int 0]))]) hD hS hA [0] rfl
  refine va_calli (va_runV (As := []) (rest := []) ⟨hx, hb, hml, hown, hts⟩ (k_X1_nextOrder l D h0 go gs ge gb _ ) (z_cV 0 hE zw_985 zw_987 zw_56 zw_92 zw_988 rfl rfl rfl (by decide +kernel) ⟨(Nat.le_of_ble_eq_true rfl), (Nat.le_of_ble_eq_true rfl)⟩) ⟨hb_10, va_recv hK hP (ci := 3) (q0 := 0) rfl rfl, hc_10⟩ rfl rfl hl.1 rfl (lv_room (Nat.le_of_ble_eq_true rfl)) dX1_seek_106 ⟨(Nat.le_of_ble_eq_true rfl), (Nat.le_of_ble_eq_true rfl)⟩) hS (fun q _ h => hF_10 q h) hF_10 (fun r_10 u_10 t_10 H1 locs ht_10 hvm_10 hw_10 hB_10 hz_10 hk_10 hS1 => ?_)
  obtain ⟨hP, hK, hD⟩ := z_back (wc := [(h0, .inr (3, [.ref go, .ref gs, .ref ge, .ref gb, .int 0, .int 0, .int 0, .int 0]))]) (wr := []) (w1 := [(h0, .inr (3, [.ref go, .ref gs, .ref ge, .ref gb, .int 0, .int 0, .int 0, .int 0]))]) (tr := []) hP hK hD [0] [] rfl rfl rfl (by decide) ht_10 hvm_10 hk_10 hF_10 [] rfl hB_10
  have hS := hS1
  have hP : va_P D vwCl [(h0, .inr (3, [.ref go, .ref gs, .ref ge, .ref gb, .int 0, .int 0, .int 0, .int 0]))] H1 := hP
  have hD : va_D A [(h0, .inr (3, [.ref go, .ref gs, .ref ge, .ref gb, .int 0, .int 0, .int 0, .int 0]))] := hD
  have hK : va_K D vwCl [] s := hK
  clear hS1
  obtain rfl : r_10 = 0 := hw_10
  refine lv_istore_n (lv' := [(3, .int 0), (4, .int 0), (0, .ref h0), (1, .ref hu), (2, .int 0)]) hx hb dX1_seek_109 rfl hl (by decide) rfl (fun ls hl => ?_)
  refine lv_iinc (v := 1) (lv' := [(4, .int 1), (3, .int 0), (0, .ref h0), (1, .ref hu), (2, .int 0)]) hx hb dX1_seek_110 hl (k := 1) rfl (by decide) (by decide) rfl (fun ls hl => ?_)
  refine lv_goto (tgt := 66) hx hb dX1_seek_113 (by decide) ?_
  refine lv_iload hx hb dX1_seek_66 (lv_at hl 0 rfl) ?_
  refine lv_bipush (v := 120) hx hb dX1_seek_68 (by decide) ?_
  refine lv_icmp_ge (tgt := 116) hx hb dX1_seek_70 (by decide) (fun c_11 => absurd c_11 (by decide)) (fun c_11 => ?_)
  refine lv_iload_n hx hb dX1_seek_73 rfl (lv_at hl 1 rfl) ?_
  refine lv_if_eq (tgt := 116) hx hb dX1_seek_74 (by decide) (fun c_12 => ?_) (fun c_12 => absurd (by decide) c_12)
  exact W.vret hx hb hr (fun t ht hW => ⟨⟨(), rfl, trivial, z_end hP hK hD [0] rfl rfl [] rfl ht hW.alike⟩, hS.F ht⟩) hS.2.2 dX1_seek_116
theorem dX4_shortest_0 : decode cX4_shortest 0 = .ok (.aload_n 0, 1) := by decide +kernel
theorem dX4_shortest_1 : decode cX4_shortest 1 = .ok (.invokevirtual 284, 3) := by decide +kernel
theorem zw_930 : Cond.methodLink RX4 284 yX4_needFewPlanned ∈ z_Ts := z_m 930 (by decide +kernel) (by decide +kernel)
theorem zw_932 : Cond.instanceMethod yX4_needFewPlanned ∈ z_Ts := z_m 932 (by decide +kernel) (by decide +kernel)
theorem zw_45 : Cond.selects RX4 yX4_needFewPlanned yX4_needFewPlanned ∈ z_Ts := z_m 45 (by decide +kernel) (by decide +kernel)
theorem zw_933 : Cond.code yX4_needFewPlanned cX4_needFewPlanned 1 none ∈ z_Ts := z_m 933 (by decide +kernel) (by decide +kernel)
theorem dX4_shortest_4 : decode cX4_shortest 4 = .ok (.aload_n 0, 1) := by decide +kernel
theorem dX4_shortest_5 : decode cX4_shortest 5 = .ok (.getfield 34, 3) := by decide +kernel
theorem dX4_shortest_8 : decode cX4_shortest 8 = .ok (.aload_n 0, 1) := by decide +kernel
theorem dX4_shortest_9 : decode cX4_shortest 9 = .ok (.getfield 11, 3) := by decide +kernel
theorem dX4_shortest_12 : decode cX4_shortest 12 = .ok (.aload_n 0, 1) := by decide +kernel
theorem dX4_shortest_13 : decode cX4_shortest 13 = .ok (.getfield 38, 3) := by decide +kernel
theorem dX4_shortest_16 : decode cX4_shortest 16 = .ok (.invokevirtual 287, 3) := by decide +kernel
theorem zw_935 : Cond.methodLinkNest RX4 287 yX1_seek "TwofrontArcade" ∈ z_Ts := z_m 935 (by decide +kernel) (by decide +kernel)
theorem zw_938 : Cond.code yX1_seek cX1_seek 5 none ∈ z_Ts := z_m 938 (by decide +kernel) (by decide +kernel)
theorem zw_937 : Cond.instanceMethod yX1_seek ∈ z_Ts := z_m 937 (by decide +kernel) (by decide +kernel)
theorem zw_46 : Cond.selects RX1 yX1_seek yX1_seek ∈ z_Ts := z_m 46 (by decide +kernel) (by decide +kernel)
theorem dX4_shortest_19 : decode cX4_shortest 19 = .ok (.aload_n 0, 1) := by decide +kernel
theorem dX4_shortest_20 : decode cX4_shortest 20 = .ok (.getfield 34, 3) := by decide +kernel
theorem dX4_shortest_23 : decode cX4_shortest 23 = .ok (.getfield 291, 3) := by decide +kernel
theorem zw_152 : Cond.fieldLinkNest RX4 291 "TwofrontArcade$Programme" "bestDays" "I" "TwofrontArcade" ∈ z_Ts := z_m 152 (by decide +kernel) (by decide +kernel)
theorem dX4_shortest_26 : decode cX4_shortest 26 = .ok (.ireturn, 1) := by decide +kernel
set_option maxHeartbeats 4000000 in
set_option maxRecDepth 100000 in
theorem k_X4_shortest (l : Launch) (D : va_G) (h0 : Nat) (hu : Nat) (hs : Nat) (hc : Nat) (hp : Nat) (hg : Nat) (td : Int32) (sd : Int32) (go : Nat) (gs : Nat) (ge : Nat) (gb : Nat) (cS : ClassId) (cB : ClassId) (sz : Nat)  : Met l yX4_shortest [Cond.code yX4_shortest cX4_shortest 1 (some .int)] ({ frames := 3, cells := 0, slots := 0, locals := 130 }) (z_Pc D [.ref h0] [(h0, .inr (6, [.ref hu, .ref hs, .ref hc, .ref hp, .ref hg, .int 0, .int 0, .int 0, .int td, .int sd])), (hg, .inr (3, [.ref go, .ref gs, .ref ge, .ref gb, .int 0, .int 0, .int 0, .int 0])), (gs, .inl (cS, 10, .inl (fun _ => 0))), (gb, .inl (cB, 10, .inl (fun _ => 0)))] [(cS, .int), (cB, .int)] sz) (va_Qi (fun (r : Int32) (_ : Unit) => r = 0) (fun _ t => z_W D [(h0, .inr (6, [.ref hu, .ref hs, .ref hc, .ref hp, .ref hg, .int 0, .int 0, .int 0, .int td, .int sd]))] [] (va_A [(h0, .inr (6, [.ref hu, .ref hs, .ref hc, .ref hp, .ref hg, .int 0, .int 0, .int 0, .int td, .int sd])), (hg, .inr (3, [.ref go, .ref gs, .ref ge, .ref gb, .int 0, .int 0, .int 0, .int 0])), (gs, .inl (cS, 10, .inl (fun _ => 0))), (gb, .inl (cB, 10, .inl (fun _ => 0)))] sz) t) (va_A [(h0, .inr (6, [.ref hu, .ref hs, .ref hc, .ref hp, .ref hg, .int 0, .int 0, .int 0, .int td, .int sd])), (hg, .inr (3, [.ref go, .ref gs, .ref ge, .ref gb, .int 0, .int 0, .int 0, .int 0])), (gs, .inl (cS, 10, .inl (fun _ => 0))), (gb, .inl (cB, 10, .inl (fun _ => 0)))] sz)) 0 0 (va_A [(h0, .inr (6, [.ref hu, .ref hs, .ref hc, .ref hp, .ref hg, .int 0, .int 0, .int 0, .int td, .int sd])), (hg, .inr (3, [.ref go, .ref gs, .ref ge, .ref gb, .int 0, .int 0, .int 0, .int 0])), (gs, .inl (cS, 10, .inl (fun _ => 0))), (gb, .inl (cB, 10, .inl (fun _ => 0)))] sz) := by
  refine Met.ofW (cc := cX4_shortest) (maxL := 1) (ret := (some .int)) (by decide +kernel) rfl ?_
  intro p e s m args below meth c s₁ B hml hv
  obtain ⟨rfl, hsz, hP, hK, hD0, hE, hX0⟩ := hv
  have hx := B.exec
  have hb := B.bytes
  have hr := B.returns
  have hts := z_E.ts (args := [.ref h0].toArray) hE
  have hown : s.vm.findClass RX4 = some m.cls := findClass_of_methodNamed B.named
  have hlocks := B.notSynchronized
  subst hsz
  have hD := hD0.self (sz := s.heap.size)
  generalize hAe : va_A [(h0, .inr (6, [.ref hu, .ref hs, .ref hc, .ref hp, .ref hg, .int 0, .int 0, .int 0, .int td, .int sd])), (hg, .inr (3, [.ref go, .ref gs, .ref ge, .ref gb, .int 0, .int 0, .int 0, .int 0])), (gs, .inl (cS, 10, .inl (fun _ => 0))), (gb, .inl (cB, 10, .inl (fun _ => 0)))] s.heap.size = A at hD hX0 ⊢
  have hX : z_X D A s s.heap := hX0
  have hA : ∀ q : Nat, s.heap.size ≤ q → A q := fun q h => by rw [← hAe]; exact Or.inr h
  have hS : va_S A s.heap s.heap [] := va_S.rf
  have hP : va_P D vwCl [(h0, .inr (6, [.ref hu, .ref hs, .ref hc, .ref hp, .ref hg, .int 0, .int 0, .int 0, .int td, .int sd])), (hg, .inr (3, [.ref go, .ref gs, .ref ge, .ref gb, .int 0, .int 0, .int 0, .int 0])), (gs, .inl (cS, 10, .inl (fun _ => 0))), (gb, .inl (cB, 10, .inl (fun _ => 0)))] s.heap := hP
  have hl := lv_entry ([.ref h0]) (n := 1) (Nat.le_of_ble_eq_true rfl)
  rw [lg_entry_eq]
  generalize (lg_sl ([.ref h0]) ++ List.replicate (1 - (lg_sl ([.ref h0])).length) Slot.unset).toArray = ls at hl ⊢
  have hl : lv_has ls 1 [(0, .ref h0)] := hl
  skip
  refine lv_aload_n hx hb dX4_shortest_0 rfl (lv_at hl 0 rfl) ?_
  obtain ⟨hb_1, hc_1⟩ := z_call (wc := [(h0, .inr (6, [.ref hu, .ref hs, .ref hc, .ref hp, .ref hg, .int 0, .int 0, .int 0, .int td, .int sd]))]) (tc := []) ([.ref h0]) hP hK hD hS hA hE hX [0] rfl rfl [] rfl
  have hF_1 := va_free (wc := [(h0, .inr (6, [.ref hu, .ref hs, .ref hc, .ref hp, .ref hg, .int 0, .int 0, .int 0, .int td, .int sd]))]) hD hS hA [0] rfl
  refine va_callv (va_runV (As := []) (rest := []) ⟨hx, hb, hml, hown, hts⟩ (k_X4_needFewPlanned l D h0 hu hs hc hp hg td sd _ ) (z_cV 0 hE zw_930 zw_932 zw_45 zw_91 zw_933 rfl rfl rfl (by decide +kernel) ⟨(Nat.le_of_ble_eq_true rfl), (Nat.le_of_ble_eq_true rfl)⟩) ⟨hb_1, va_recv hK hP (ci := 6) (q0 := 0) rfl rfl, hc_1⟩ rfl rfl hl.1 rfl (lv_room (Nat.le_of_ble_eq_true rfl)) dX4_shortest_1 ⟨(Nat.le_of_ble_eq_true rfl), (Nat.le_of_ble_eq_true rfl)⟩) hS (fun q _ h => hF_1 q h) hF_1 (fun u_1 t_1 H1 locs ht_1 hvm_1 hw_1 hB_1 hz_1 hk_1 hS1 => ?_)
  obtain ⟨hP, hK, hD⟩ := z_back (wc := [(h0, .inr (6, [.ref hu, .ref hs, .ref hc, .ref hp, .ref hg, .int 0, .int 0, .int 0, .int td, .int sd]))]) (wr := [(hg, .inr (3, [.ref go, .ref gs, .ref ge, .ref gb, .int 0, .int 0, .int 0, .int 0])), (gs, .inl (cS, 10, .inl (fun _ => 0))), (gb, .inl (cB, 10, .inl (fun _ => 0)))]) (w1 := [(h0, .inr (6, [.ref hu, .ref hs, .ref hc, .ref hp, .ref hg, .int 0, .int 0, .int 0, .int td, .int sd]))]) (tr := [(cS, .int), (cB, .int)]) hP hK hD [0] [1, 2, 3] rfl rfl rfl (by decide) ht_1 hvm_1 hk_1 hF_1 [0, 1] rfl hB_1
  have hS := hS1
  have hP : va_P D vwCl [(hg, .inr (3, [.ref go, .ref gs, .ref ge, .ref gb, .int 0, .int 0, .int 0, .int 0])), (gs, .inl (cS, 10, .inl (fun _ => 0))), (gb, .inl (cB, 10, .inl (fun _ => 0))), (h0, .inr (6, [.ref hu, .ref hs, .ref hc, .ref hp, .ref hg, .int 0, .int 0, .int 0, .int td, .int sd]))] H1 := hP
  have hD : va_D A [(hg, .inr (3, [.ref go, .ref gs, .ref ge, .ref gb, .int 0, .int 0, .int 0, .int 0])), (gs, .inl (cS, 10, .inl (fun _ => 0))), (gb, .inl (cB, 10, .inl (fun _ => 0))), (h0, .inr (6, [.ref hu, .ref hs, .ref hc, .ref hp, .ref hg, .int 0, .int 0, .int 0, .int td, .int sd]))] := hD
  have hK : va_K D vwCl [(cS, .int), (cB, .int)] s := hK
  clear hS1
  refine lv_aload_n hx hb dX4_shortest_4 rfl (lv_at hl 0 rfl) ?_
  refine va_get (D := D) (ci := 6) (v := .ref hg) (C := RX4) (T := TX4) (N := 10) hx hb hts zin_X4 hown hK hP 3 rfl rfl 4 (by decide) (hts _ zw_290) (fun _ h9 => h9) rfl dX4_shortest_5 ?_
  refine lv_aload_n hx hb dX4_shortest_8 rfl (lv_at hl 0 rfl) ?_
  refine va_get (D := D) (ci := 6) (v := .ref hu) (C := RX4) (T := TX4) (N := 10) hx hb hts zin_X4 hown hK hP 3 rfl rfl 0 (by decide) (hts _ zw_286) (fun _ h9 => h9) rfl dX4_shortest_9 ?_
  refine lv_aload_n hx hb dX4_shortest_12 rfl (lv_at hl 0 rfl) ?_
  refine va_get (D := D) (ci := 6) (v := .int 0) (C := RX4) (T := TX4) (N := 10) hx hb hts zin_X4 hown hK hP 3 rfl rfl 5 (by decide) (hts _ zw_291) (fun _ h9 => h9) rfl dX4_shortest_13 ?_
  obtain ⟨hb_2, hc_2⟩ := z_call (wc := [(hg, .inr (3, [.ref go, .ref gs, .ref ge, .ref gb, .int 0, .int 0, .int 0, .int 0])), (gs, .inl (cS, 10, .inl (fun _ => 0))), (gb, .inl (cB, 10, .inl (fun _ => 0)))]) (tc := [(cS, .int), (cB, .int)]) ([.ref hg, .ref hu, .int 0]) hP hK hD hS hA hE hX [0, 1, 2] rfl rfl [0, 1] rfl
  have hF_2 := va_free (wc := [(hg, .inr (3, [.ref go, .ref gs, .ref ge, .ref gb, .int 0, .int 0, .int 0, .int 0])), (gs, .inl (cS, 10, .inl (fun _ => 0))), (gb, .inl (cB, 10, .inl (fun _ => 0)))]) hD hS hA [0, 1, 2] rfl
  refine va_callv (va_runVN (As := [.ref hu, .int 0]) (rest := []) ⟨hx, hb, hml, hown, hts⟩ (k_X1_seek l D hg go gs ge gb cS cB hu _ ) (⟨z_cN 2 hE zw_935 zw_92 zw_938 rfl rfl rfl (by decide +kernel) ⟨(Nat.le_of_ble_eq_true rfl), (Nat.le_of_ble_eq_true rfl)⟩, hE.ts _ zw_937, hE.ts _ zw_46⟩) ⟨hb_2, va_recv hK hP (ci := 3) (q0 := 0) rfl rfl, hc_2⟩ rfl rfl hl.1 rfl (lv_room (Nat.le_of_ble_eq_true rfl)) dX4_shortest_16 ⟨(Nat.le_of_ble_eq_true rfl), (Nat.le_of_ble_eq_true rfl)⟩) hS (fun q _ h => hF_2 q h) hF_2 (fun u_2 t_2 H1 locs ht_2 hvm_2 hw_2 hB_2 hz_2 hk_2 hS1 => ?_)
  obtain ⟨hP, hK, hD⟩ := z_back (wc := [(hg, .inr (3, [.ref go, .ref gs, .ref ge, .ref gb, .int 0, .int 0, .int 0, .int 0])), (gs, .inl (cS, 10, .inl (fun _ => 0))), (gb, .inl (cB, 10, .inl (fun _ => 0)))]) (wr := [(h0, .inr (6, [.ref hu, .ref hs, .ref hc, .ref hp, .ref hg, .int 0, .int 0, .int 0, .int td, .int sd]))]) (w1 := [(hg, .inr (3, [.ref go, .ref gs, .ref ge, .ref gb, .int 0, .int 0, .int 0, .int 0]))]) (tr := []) hP hK hD [0, 1, 2] [3] rfl rfl rfl (by decide) ht_2 hvm_2 hk_2 hF_2 [] rfl hB_2
  have hS := hS1
  have hP : va_P D vwCl [(h0, .inr (6, [.ref hu, .ref hs, .ref hc, .ref hp, .ref hg, .int 0, .int 0, .int 0, .int td, .int sd])), (hg, .inr (3, [.ref go, .ref gs, .ref ge, .ref gb, .int 0, .int 0, .int 0, .int 0]))] H1 := hP
  have hD : va_D A [(h0, .inr (6, [.ref hu, .ref hs, .ref hc, .ref hp, .ref hg, .int 0, .int 0, .int 0, .int td, .int sd])), (hg, .inr (3, [.ref go, .ref gs, .ref ge, .ref gb, .int 0, .int 0, .int 0, .int 0]))] := hD
  have hK : va_K D vwCl [] s := hK
  clear hS1
  refine lv_aload_n hx hb dX4_shortest_19 rfl (lv_at hl 0 rfl) ?_
  refine va_get (D := D) (ci := 6) (v := .ref hg) (C := RX4) (T := TX4) (N := 10) hx hb hts zin_X4 hown hK hP 0 rfl rfl 4 (by decide) (hts _ zw_290) (fun _ h9 => h9) rfl dX4_shortest_20 ?_
  refine va_getN (D := D) (ci := 3) (v := .int 0) (C := RX1) (T := TX1) (N := 8) hx hb hts zin_X1 hown hK hP 1 rfl rfl 7 (by decide) (hts _ zw_152) (fun _ h9 => h9) rfl dX4_shortest_23 ?_
  exact W.iret (v := 0) hx hb hr (fun t ht hW => ⟨⟨0, (), rfl, rfl, z_end hP hK hD [0] rfl rfl [] rfl ht hW.alike⟩, hS.F ht⟩) hS.2.2 dX4_shortest_26
