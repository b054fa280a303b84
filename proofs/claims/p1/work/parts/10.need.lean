theorem dX4_needUnit_0 : decode cX4_needUnit 0 = .ok (.iload_n 1, 1) := by decide +kernel
theorem dX4_needUnit_1 : decode cX4_needUnit 1 = .ok (.ifCond .lt 11, 3) := by decide +kernel
set_option maxRecDepth 20000 in
theorem zat_X4_343 : ∀ w ∈ vx_atS RX4 343 "java/lang/IndexOutOfBoundsException" ["java/lang/RuntimeException", "java/lang/Exception"], w ∈ z_Ts := z_ins (by decide +kernel) (by decide +kernel)
set_option maxRecDepth 20000 in
theorem zgd_X4_343 : ∀ w ∈ Cond.classLink RX4 339 "java/lang/IndexOutOfBoundsException" :: Cond.initialized "java/lang/IndexOutOfBoundsException" :: vx_atS RX4 343 "java/lang/IndexOutOfBoundsException" ["java/lang/RuntimeException", "java/lang/Exception"], vx_ot w = true := List.all_eq_true.mp (by decide +kernel)
theorem zw_538 : Cond.stringRef RX4 341 "there is no such unit" ∈ z_Ts := z_m 538 (by decide +kernel) (by decide +kernel)
theorem dX4_needUnit_12 : decode cX4_needUnit 12 = .ok (.new 339, 3) := by decide +kernel
theorem dX4_needUnit_15 : decode cX4_needUnit 15 = .ok (.dup, 1) := by decide +kernel
theorem dX4_needUnit_16 : decode cX4_needUnit 16 = .ok (.ldc_w 341, 3) := by decide +kernel
theorem dX4_needUnit_19 : decode cX4_needUnit 19 = .ok (.invokespecial 343, 3) := by decide +kernel
theorem dX4_needUnit_22 : decode cX4_needUnit 22 = .ok (.athrow, 1) := by decide +kernel
theorem zw_529 : Cond.classLink RX4 339 "java/lang/IndexOutOfBoundsException" ∈ z_Ts := z_m 529 (by decide +kernel) (by decide +kernel)
theorem zw_111 : Cond.initialized "java/lang/IndexOutOfBoundsException" ∈ z_Ts := z_m 111 (by decide +kernel) (by decide +kernel)
theorem dX4_needUnit_4 : decode cX4_needUnit 4 = .ok (.iload_n 1, 1) := by decide +kernel
theorem dX4_needUnit_5 : decode cX4_needUnit 5 = .ok (.aload_n 0, 1) := by decide +kernel
theorem dX4_needUnit_6 : decode cX4_needUnit 6 = .ok (.getfield 38, 3) := by decide +kernel
theorem zw_291 : Cond.fieldLink RX4 38 "TwofrontArcade" "unitCount" "I" ∈ z_Ts := z_m 291 (by decide +kernel) (by decide +kernel)
set_option maxRecDepth 20000 in
theorem zin_X4 : ∀ w ∈ u_ws RX4 TX4 10, w ∈ z_Ts := z_ins (by decide +kernel) (by decide +kernel)
theorem dX4_needUnit_9 : decode cX4_needUnit 9 = .ok (.if_icmp .lt 14, 3) := by decide +kernel
theorem dX4_needUnit_23 : decode cX4_needUnit 23 = .ok (.return_, 1) := by decide +kernel
set_option maxHeartbeats 4000000 in
set_option maxRecDepth 100000 in
theorem c_X4_needUnit (l : Launch) (hst : l.stackTraces = false) (D : va_G) (h0 : Nat) (hu : Nat) (hs : Nat) (hc : Nat) (hp : Nat) (hg : Nat) (uc : Int32) (sc : Int32) (cc : Int32) (td : Int32) (sd : Int32) (n0 : Int32) (sz : Nat)  : vx_Met l yX4_needUnit [Cond.code yX4_needUnit cX4_needUnit 2 none] ({ frames := 6, cells := 1, slots := 6, locals := 100 }) (z_Pc D [.ref h0, .int n0] [(h0, .inr (6, [.ref hu, .ref hs, .ref hc, .ref hp, .ref hg, .int uc, .int sc, .int cc, .int td, .int sd]))] [] sz) (va_Qv (fun _ : Unit => ¬ (n0 < 0) ∧ n0 < uc) (fun _ t => z_W D [(h0, .inr (6, [.ref hu, .ref hs, .ref hc, .ref hp, .ref hg, .int uc, .int sc, .int cc, .int td, .int sd]))] [] (va_A [(h0, .inr (6, [.ref hu, .ref hs, .ref hc, .ref hp, .ref hg, .int uc, .int sc, .int cc, .int td, .int sd]))] sz) t) (va_A [(h0, .inr (6, [.ref hu, .ref hs, .ref hc, .ref hp, .ref hg, .int uc, .int sc, .int cc, .int td, .int sd]))] sz)) (z_T (n0 < 0 ∨ ¬ n0 < uc) "java/lang/IndexOutOfBoundsException" D [(h0, .inr (6, [.ref hu, .ref hs, .ref hc, .ref hp, .ref hg, .int uc, .int sc, .int cc, .int td, .int sd]))] [] sz) 1 6 (va_A [(h0, .inr (6, [.ref hu, .ref hs, .ref hc, .ref hp, .ref hg, .int uc, .int sc, .int cc, .int td, .int sd]))] sz) := by
  refine vx_ofW (cc := cX4_needUnit) (maxL := 2) (ret := none) (by decide +kernel) rfl ?_
  intro p e s m args below meth c s₁ B hml hnt hv
  obtain ⟨rfl, hsz, hP, hK, hD0, hE, hX0⟩ := hv
  have hx := B.exec
  have hb := B.bytes
  have hr := B.returns
  have hts := z_E.ts (args := [.ref h0, .int n0].toArray) hE
  have hown : s.vm.findClass RX4 = some m.cls := findClass_of_methodNamed B.named
  have hlocks := B.notSynchronized
  subst hsz
  have hD := hD0.self (sz := s.heap.size)
  generalize hAe : va_A [(h0, .inr (6, [.ref hu, .ref hs, .ref hc, .ref hp, .ref hg, .int uc, .int sc, .int cc, .int td, .int sd]))] s.heap.size = A at hD hX0 ⊢
  have hX : z_X D A s s.heap := hX0
  have hA : ∀ q : Nat, s.heap.size ≤ q → A q := fun q h => by rw [← hAe]; exact Or.inr h
  have hS : va_S A s.heap s.heap [] := va_S.rf
  have hP : va_P D vwCl [(h0, .inr (6, [.ref hu, .ref hs, .ref hc, .ref hp, .ref hg, .int uc, .int sc, .int cc, .int td, .int sd]))] s.heap := hP
  have hl := lv_entry ([.ref h0, .int n0]) (n := 2) (Nat.le_of_ble_eq_true rfl)
  rw [lg_entry_eq]
  generalize (lg_sl ([.ref h0, .int n0]) ++ List.replicate (2 - (lg_sl ([.ref h0, .int n0])).length) Slot.unset).toArray = ls at hl ⊢
  have hl : lv_has ls 2 [(0, .ref h0), (1, .int n0)] := hl
  skip
  refine lv_iload_n hx hb dX4_needUnit_0 rfl (lv_at hl 1 rfl) ?_
  refine lv_if_lt (tgt := 12) hx hb dX4_needUnit_1 (by decide) (fun c_1 => ?_) (fun c_1 => ?_)
  · obtain ⟨sa_2, hsa_2⟩ := z_str hE zw_538
    exact vx_throwSW (A := A) (names := ["java/lang/RuntimeException", "java/lang/Exception"]) hx hb hst hown (by decide +kernel) (by decide +kernel) (hts _ zw_529) (hts _ zw_111) hsa_2 (z_hat hE zat_X4_343) zgd_X4_343 hX.1.1 hX.1.2 hS (hl.1.trans hml.symm) dX4_needUnit_12 dX4_needUnit_15 dX4_needUnit_16 dX4_needUnit_19 dX4_needUnit_22 (fun x hx => (hnt x hx).elim) (Nat.le_of_ble_eq_true rfl) (Nat.le_of_ble_eq_true rfl) (Nat.le_of_ble_eq_true rfl) (Nat.le_of_ble_eq_true rfl) hlocks (z_thrown (Or.inl c_1) rfl hAe hP hK hD hS [0] rfl rfl [] rfl) hS.2.2 (Nat.le_of_ble_eq_true rfl) (Nat.le_of_ble_eq_true rfl)
  · refine lv_iload_n hx hb dX4_needUnit_4 rfl (lv_at hl 1 rfl) ?_
    refine lv_aload_n hx hb dX4_needUnit_5 rfl (lv_at hl 0 rfl) ?_
    refine va_get (D := D) (ci := 6) (v := .int uc) (C := RX4) (T := TX4) (N := 10) hx hb hts zin_X4 hown hK hP 0 rfl rfl 5 (by decide) (hts _ zw_291) (fun _ h9 => h9) rfl dX4_needUnit_6 ?_
    refine lv_icmp_lt (tgt := 23) hx hb dX4_needUnit_9 (by decide) (fun c_2 => ?_) (fun c_2 => ?_)
    · refine W.widen (k := 1) (n := 6) (Nat.le_of_ble_eq_true rfl) (Nat.le_of_ble_eq_true rfl) ?_
      exact vx_ret (W.vret hx hb hr (fun t ht hW => ⟨⟨(), rfl, ⟨c_1, c_2⟩, z_end hP hK hD [0] rfl rfl [] rfl ht hW.alike⟩, hS.F ht⟩) hS.2.2 dX4_needUnit_23)
    · obtain ⟨sa_3, hsa_3⟩ := z_str hE zw_538
      exact vx_throwSW (A := A) (names := ["java/lang/RuntimeException", "java/lang/Exception"]) hx hb hst hown (by decide +kernel) (by decide +kernel) (hts _ zw_529) (hts _ zw_111) hsa_3 (z_hat hE zat_X4_343) zgd_X4_343 hX.1.1 hX.1.2 hS (hl.1.trans hml.symm) dX4_needUnit_12 dX4_needUnit_15 dX4_needUnit_16 dX4_needUnit_19 dX4_needUnit_22 (fun x hx => (hnt x hx).elim) (Nat.le_of_ble_eq_true rfl) (Nat.le_of_ble_eq_true rfl) (Nat.le_of_ble_eq_true rfl) (Nat.le_of_ble_eq_true rfl) hlocks (z_thrown (Or.inr c_2) rfl hAe hP hK hD hS [0] rfl rfl [] rfl) hS.2.2 (Nat.le_of_ble_eq_true rfl) (Nat.le_of_ble_eq_true rfl)
theorem dX4_needShop_0 : decode cX4_needShop 0 = .ok (.iload_n 1, 1) := by decide +kernel
theorem dX4_needShop_1 : decode cX4_needShop 1 = .ok (.ifCond .lt 11, 3) := by decide +kernel
theorem zw_682 : Cond.stringRef RX4 344 "there is no such shop" ∈ z_Ts := z_m 682 (by decide +kernel) (by decide +kernel)
theorem dX4_needShop_12 : decode cX4_needShop 12 = .ok (.new 339, 3) := by decide +kernel
theorem dX4_needShop_15 : decode cX4_needShop 15 = .ok (.dup, 1) := by decide +kernel
theorem dX4_needShop_16 : decode cX4_needShop 16 = .ok (.ldc_w 344, 3) := by decide +kernel
theorem dX4_needShop_19 : decode cX4_needShop 19 = .ok (.invokespecial 343, 3) := by decide +kernel
theorem dX4_needShop_22 : decode cX4_needShop 22 = .ok (.athrow, 1) := by decide +kernel
theorem dX4_needShop_4 : decode cX4_needShop 4 = .ok (.iload_n 1, 1) := by decide +kernel
theorem dX4_needShop_5 : decode cX4_needShop 5 = .ok (.aload_n 0, 1) := by decide +kernel
theorem dX4_needShop_6 : decode cX4_needShop 6 = .ok (.getfield 42, 3) := by decide +kernel
theorem zw_292 : Cond.fieldLink RX4 42 "TwofrontArcade" "shopCount" "I" ∈ z_Ts := z_m 292 (by decide +kernel) (by decide +kernel)
theorem dX4_needShop_9 : decode cX4_needShop 9 = .ok (.if_icmp .lt 14, 3) := by decide +kernel
theorem dX4_needShop_23 : decode cX4_needShop 23 = .ok (.return_, 1) := by decide +kernel
set_option maxHeartbeats 4000000 in
set_option maxRecDepth 100000 in
theorem c_X4_needShop (l : Launch) (hst : l.stackTraces = false) (D : va_G) (h0 : Nat) (hu : Nat) (hs : Nat) (hc : Nat) (hp : Nat) (hg : Nat) (uc : Int32) (sc : Int32) (cc : Int32) (td : Int32) (sd : Int32) (n0 : Int32) (sz : Nat)  : vx_Met l yX4_needShop [Cond.code yX4_needShop cX4_needShop 2 none] ({ frames := 6, cells := 1, slots := 6, locals := 100 }) (z_Pc D [.ref h0, .int n0] [(h0, .inr (6, [.ref hu, .ref hs, .ref hc, .ref hp, .ref hg, .int uc, .int sc, .int cc, .int td, .int sd]))] [] sz) (va_Qv (fun _ : Unit => ¬ (n0 < 0) ∧ n0 < sc) (fun _ t => z_W D [(h0, .inr (6, [.ref hu, .ref hs, .ref hc, .ref hp, .ref hg, .int uc, .int sc, .int cc, .int td, .int sd]))] [] (va_A [(h0, .inr (6, [.ref hu, .ref hs, .ref hc, .ref hp, .ref hg, .int uc, .int sc, .int cc, .int td, .int sd]))] sz) t) (va_A [(h0, .inr (6, [.ref hu, .ref hs, .ref hc, .ref hp, .ref hg, .int uc, .int sc, .int cc, .int td, .int sd]))] sz)) (z_T (n0 < 0 ∨ ¬ n0 < sc) "java/lang/IndexOutOfBoundsException" D [(h0, .inr (6, [.ref hu, .ref hs, .ref hc, .ref hp, .ref hg, .int uc, .int sc, .int cc, .int td, .int sd]))] [] sz) 1 6 (va_A [(h0, .inr (6, [.ref hu, .ref hs, .ref hc, .ref hp, .ref hg, .int uc, .int sc, .int cc, .int td, .int sd]))] sz) := by
  refine vx_ofW (cc := cX4_needShop) (maxL := 2) (ret := none) (by decide +kernel) rfl ?_
  intro p e s m args below meth c s₁ B hml hnt hv
  obtain ⟨rfl, hsz, hP, hK, hD0, hE, hX0⟩ := hv
  have hx := B.exec
  have hb := B.bytes
  have hr := B.returns
  have hts := z_E.ts (args := [.ref h0, .int n0].toArray) hE
  have hown : s.vm.findClass RX4 = some m.cls := findClass_of_methodNamed B.named
  have hlocks := B.notSynchronized
  subst hsz
  have hD := hD0.self (sz := s.heap.size)
  generalize hAe : va_A [(h0, .inr (6, [.ref hu, .ref hs, .ref hc, .ref hp, .ref hg, .int uc, .int sc, .int cc, .int td, .int sd]))] s.heap.size = A at hD hX0 ⊢
  have hX : z_X D A s s.heap := hX0
  have hA : ∀ q : Nat, s.heap.size ≤ q → A q := fun q h => by rw [← hAe]; exact Or.inr h
  have hS : va_S A s.heap s.heap [] := va_S.rf
  have hP : va_P D vwCl [(h0, .inr (6, [.ref hu, .ref hs, .ref hc, .ref hp, .ref hg, .int uc, .int sc, .int cc, .int td, .int sd]))] s.heap := hP
  have hl := lv_entry ([.ref h0, .int n0]) (n := 2) (Nat.le_of_ble_eq_true rfl)
  rw [lg_entry_eq]
  generalize (lg_sl ([.ref h0, .int n0]) ++ List.replicate (2 - (lg_sl ([.ref h0, .int n0])).length) Slot.unset).toArray = ls at hl ⊢
  have hl : lv_has ls 2 [(0, .ref h0), (1, .int n0)] := hl
  skip
  refine lv_iload_n hx hb dX4_needShop_0 rfl (lv_at hl 1 rfl) ?_
  refine lv_if_lt (tgt := 12) hx hb dX4_needShop_1 (by decide) (fun c_1 => ?_) (fun c_1 => ?_)
  · obtain ⟨sa_2, hsa_2⟩ := z_str hE zw_682
    exact vx_throwSW (A := A) (names := ["java/lang/RuntimeException", "java/lang/Exception"]) hx hb hst hown (by decide +kernel) (by decide +kernel) (hts _ zw_529) (hts _ zw_111) hsa_2 (z_hat hE zat_X4_343) zgd_X4_343 hX.1.1 hX.1.2 hS (hl.1.trans hml.symm) dX4_needShop_12 dX4_needShop_15 dX4_needShop_16 dX4_needShop_19 dX4_needShop_22 (fun x hx => (hnt x hx).elim) (Nat.le_of_ble_eq_true rfl) (Nat.le_of_ble_eq_true rfl) (Nat.le_of_ble_eq_true rfl) (Nat.le_of_ble_eq_true rfl) hlocks (z_thrown (Or.inl c_1) rfl hAe hP hK hD hS [0] rfl rfl [] rfl) hS.2.2 (Nat.le_of_ble_eq_true rfl) (Nat.le_of_ble_eq_true rfl)
  · refine lv_iload_n hx hb dX4_needShop_4 rfl (lv_at hl 1 rfl) ?_
    refine lv_aload_n hx hb dX4_needShop_5 rfl (lv_at hl 0 rfl) ?_
    refine va_get (D := D) (ci := 6) (v := .int sc) (C := RX4) (T := TX4) (N := 10) hx hb hts zin_X4 hown hK hP 0 rfl rfl 6 (by decide) (hts _ zw_292) (fun _ h9 => h9) rfl dX4_needShop_6 ?_
    refine lv_icmp_lt (tgt := 23) hx hb dX4_needShop_9 (by decide) (fun c_2 => ?_) (fun c_2 => ?_)
    · refine W.widen (k := 1) (n := 6) (Nat.le_of_ble_eq_true rfl) (Nat.le_of_ble_eq_true rfl) ?_
      exact vx_ret (W.vret hx hb hr (fun t ht hW => ⟨⟨(), rfl, ⟨c_1, c_2⟩, z_end hP hK hD [0] rfl rfl [] rfl ht hW.alike⟩, hS.F ht⟩) hS.2.2 dX4_needShop_23)
    · obtain ⟨sa_3, hsa_3⟩ := z_str hE zw_682
      exact vx_throwSW (A := A) (names := ["java/lang/RuntimeException", "java/lang/Exception"]) hx hb hst hown (by decide +kernel) (by decide +kernel) (hts _ zw_529) (hts _ zw_111) hsa_3 (z_hat hE zat_X4_343) zgd_X4_343 hX.1.1 hX.1.2 hS (hl.1.trans hml.symm) dX4_needShop_12 dX4_needShop_15 dX4_needShop_16 dX4_needShop_19 dX4_needShop_22 (fun x hx => (hnt x hx).elim) (Nat.le_of_ble_eq_true rfl) (Nat.le_of_ble_eq_true rfl) (Nat.le_of_ble_eq_true rfl) (Nat.le_of_ble_eq_true rfl) hlocks (z_thrown (Or.inr c_2) rfl hAe hP hK hD hS [0] rfl rfl [] rfl) hS.2.2 (Nat.le_of_ble_eq_true rfl) (Nat.le_of_ble_eq_true rfl)
theorem dX4_needCrew_0 : decode cX4_needCrew 0 = .ok (.iload_n 1, 1) := by decide +kernel
theorem dX4_needCrew_1 : decode cX4_needCrew 1 = .ok (.ifCond .lt 11, 3) := by decide +kernel
theorem zw_897 : Cond.stringRef RX4 346 "there is no such crew" ∈ z_Ts := z_m 897 (by decide +kernel) (by decide +kernel)
theorem dX4_needCrew_12 : decode cX4_needCrew 12 = .ok (.new 339, 3) := by decide +kernel
theorem dX4_needCrew_15 : decode cX4_needCrew 15 = .ok (.dup, 1) := by decide +kernel
theorem dX4_needCrew_16 : decode cX4_needCrew 16 = .ok (.ldc_w 346, 3) := by decide +kernel
theorem dX4_needCrew_19 : decode cX4_needCrew 19 = .ok (.invokespecial 343, 3) := by decide +kernel
theorem dX4_needCrew_22 : decode cX4_needCrew 22 = .ok (.athrow, 1) := by decide +kernel
theorem dX4_needCrew_4 : decode cX4_needCrew 4 = .ok (.iload_n 1, 1) := by decide +kernel
theorem dX4_needCrew_5 : decode cX4_needCrew 5 = .ok (.aload_n 0, 1) := by decide +kernel
theorem dX4_needCrew_6 : decode cX4_needCrew 6 = .ok (.getfield 45, 3) := by decide +kernel
theorem zw_293 : Cond.fieldLink RX4 45 "TwofrontArcade" "crewCount" "I" ∈ z_Ts := z_m 293 (by decide +kernel) (by decide +kernel)
theorem dX4_needCrew_9 : decode cX4_needCrew 9 = .ok (.if_icmp .lt 14, 3) := by decide +kernel
theorem dX4_needCrew_23 : decode cX4_needCrew 23 = .ok (.return_, 1) := by decide +kernel
set_option maxHeartbeats 4000000 in
set_option maxRecDepth 100000 in
theorem c_X4_needCrew (l : Launch) (hst : l.stackTraces = false) (D : va_G) (h0 : Nat) (hu : Nat) (hs : Nat) (hc : Nat) (hp : Nat) (hg : Nat) (uc : Int32) (sc : Int32) (cc : Int32) (td : Int32) (sd : Int32) (n0 : Int32) (sz : Nat)  : vx_Met l yX4_needCrew [Cond.code yX4_needCrew cX4_needCrew 2 none] ({ frames := 6, cells := 1, slots := 6, locals := 100 }) (z_Pc D [.ref h0, .int n0] [(h0, .inr (6, [.ref hu, .ref hs, .ref hc, .ref hp, .ref hg, .int uc, .int sc, .int cc, .int td, .int sd]))] [] sz) (va_Qv (fun _ : Unit => ¬ (n0 < 0) ∧ n0 < cc) (fun _ t => z_W D [(h0, .inr (6, [.ref hu, .ref hs, .ref hc, .ref hp, .ref hg, .int uc, .int sc, .int cc, .int td, .int sd]))] [] (va_A [(h0, .inr (6, [.ref hu, .ref hs, .ref hc, .ref hp, .ref hg, .int uc, .int sc, .int cc, .int td, .int sd]))] sz) t) (va_A [(h0, .inr (6, [.ref hu, .ref hs, .ref hc, .ref hp, .ref hg, .int uc, .int sc, .int cc, .int td, .int sd]))] sz)) (z_T (n0 < 0 ∨ ¬ n0 < cc) "java/lang/IndexOutOfBoundsException" D [(h0, .inr (6, [.ref hu, .ref hs, .ref hc, .ref hp, .ref hg, .int uc, .int sc, .int cc, .int td, .int sd]))] [] sz) 1 6 (va_A [(h0, .inr (6, [.ref hu, .ref hs, .ref hc, .ref hp, .ref hg, .int uc, .int sc, .int cc, .int td, .int sd]))] sz) := by
  refine vx_ofW (cc := cX4_needCrew) (maxL := 2) (ret := none) (by decide +kernel) rfl ?_
  intro p e s m args below meth c s₁ B hml hnt hv
  obtain ⟨rfl, hsz, hP, hK, hD0, hE, hX0⟩ := hv
  have hx := B.exec
  have hb := B.bytes
  have hr := B.returns
  have hts := z_E.ts (args := [.ref h0, .int n0].toArray) hE
  have hown : s.vm.findClass RX4 = some m.cls := findClass_of_methodNamed B.named
  have hlocks := B.notSynchronized
  subst hsz
  have hD := hD0.self (sz := s.heap.size)
  generalize hAe : va_A [(h0, .inr (6, [.ref hu, .ref hs, .ref hc, .ref hp, .ref hg, .int uc, .int sc, .int cc, .int td, .int sd]))] s.heap.size = A at hD hX0 ⊢
  have hX : z_X D A s s.heap := hX0
  have hA : ∀ q : Nat, s.heap.size ≤ q → A q := fun q h => by rw [← hAe]; exact Or.inr h
  have hS : va_S A s.heap s.heap [] := va_S.rf
  have hP : va_P D vwCl [(h0, .inr (6, [.ref hu, .ref hs, .ref hc, .ref hp, .ref hg, .int uc, .int sc, .int cc, .int td, .int sd]))] s.heap := hP
  have hl := lv_entry ([.ref h0, .int n0]) (n := 2) (Nat.le_of_ble_eq_true rfl)
  rw [lg_entry_eq]
  generalize (lg_sl ([.ref h0, .int n0]) ++ List.replicate (2 - (lg_sl ([.ref h0, .int n0])).length) Slot.unset).toArray = ls at hl ⊢
  have hl : lv_has ls 2 [(0, .ref h0), (1, .int n0)] := hl
  skip
  refine lv_iload_n hx hb dX4_needCrew_0 rfl (lv_at hl 1 rfl) ?_
  refine lv_if_lt (tgt := 12) hx hb dX4_needCrew_1 (by decide) (fun c_1 => ?_) (fun c_1 => ?_)
  · obtain ⟨sa_2, hsa_2⟩ := z_str hE zw_897
    exact vx_throwSW (A := A) (names := ["java/lang/RuntimeException", "java/lang/Exception"]) hx hb hst hown (by decide +kernel) (by decide +kernel) (hts _ zw_529) (hts _ zw_111) hsa_2 (z_hat hE zat_X4_343) zgd_X4_343 hX.1.1 hX.1.2 hS (hl.1.trans hml.symm) dX4_needCrew_12 dX4_needCrew_15 dX4_needCrew_16 dX4_needCrew_19 dX4_needCrew_22 (fun x hx => (hnt x hx).elim) (Nat.le_of_ble_eq_true rfl) (Nat.le_of_ble_eq_true rfl) (Nat.le_of_ble_eq_true rfl) (Nat.le_of_ble_eq_true rfl) hlocks (z_thrown (Or.inl c_1) rfl hAe hP hK hD hS [0] rfl rfl [] rfl) hS.2.2 (Nat.le_of_ble_eq_true rfl) (Nat.le_of_ble_eq_true rfl)
  · refine lv_iload_n hx hb dX4_needCrew_4 rfl (lv_at hl 1 rfl) ?_
    refine lv_aload_n hx hb dX4_needCrew_5 rfl (lv_at hl 0 rfl) ?_
    refine va_get (D := D) (ci := 6) (v := .int cc) (C := RX4) (T := TX4) (N := 10) hx hb hts zin_X4 hown hK hP 0 rfl rfl 7 (by decide) (hts _ zw_293) (fun _ h9 => h9) rfl dX4_needCrew_6 ?_
    refine lv_icmp_lt (tgt := 23) hx hb dX4_needCrew_9 (by decide) (fun c_2 => ?_) (fun c_2 => ?_)
    · refine W.widen (k := 1) (n := 6) (Nat.le_of_ble_eq_true rfl) (Nat.le_of_ble_eq_true rfl) ?_
      exact vx_ret (W.vret hx hb hr (fun t ht hW => ⟨⟨(), rfl, ⟨c_1, c_2⟩, z_end hP hK hD [0] rfl rfl [] rfl ht hW.alike⟩, hS.F ht⟩) hS.2.2 dX4_needCrew_23)
    · obtain ⟨sa_3, hsa_3⟩ := z_str hE zw_897
      exact vx_throwSW (A := A) (names := ["java/lang/RuntimeException", "java/lang/Exception"]) hx hb hst hown (by decide +kernel) (by decide +kernel) (hts _ zw_529) (hts _ zw_111) hsa_3 (z_hat hE zat_X4_343) zgd_X4_343 hX.1.1 hX.1.2 hS (hl.1.trans hml.symm) dX4_needCrew_12 dX4_needCrew_15 dX4_needCrew_16 dX4_needCrew_19 dX4_needCrew_22 (fun x hx => (hnt x hx).elim) (Nat.le_of_ble_eq_true rfl) (Nat.le_of_ble_eq_true rfl) (Nat.le_of_ble_eq_true rfl) (Nat.le_of_ble_eq_true rfl) hlocks (z_thrown (Or.inr c_2) rfl hAe hP hK hD hS [0] rfl rfl [] rfl) hS.2.2 (Nat.le_of_ble_eq_true rfl) (Nat.le_of_ble_eq_true rfl)
theorem dX4_needRange_0 : decode cX4_needRange 0 = .ok (.iload_n 0, 1) := by decide +kernel
theorem dX4_needRange_1 : decode cX4_needRange 1 = .ok (.iload_n 1, 1) := by decide +kernel
theorem dX4_needRange_2 : decode cX4_needRange 2 = .ok (.if_icmp .lt 8, 3) := by decide +kernel
set_option maxRecDepth 20000 in
theorem zat_X4_84 : ∀ w ∈ vx_atS RX4 84 "java/lang/IllegalArgumentException" ["java/lang/RuntimeException", "java/lang/Exception"], w ∈ z_Ts := z_ins (by decide +kernel) (by decide +kernel)
set_option maxRecDepth 20000 in
theorem zgd_X4_84 : ∀ w ∈ Cond.classLink RX4 80 "java/lang/IllegalArgumentException" :: Cond.initialized "java/lang/IllegalArgumentException" :: vx_atS RX4 84 "java/lang/IllegalArgumentException" ["java/lang/RuntimeException", "java/lang/Exception"], vx_ot w = true := List.all_eq_true.mp (by decide +kernel)
theorem zw_458 : Cond.stringRef RX4 337 "a number is out of range" ∈ z_Ts := z_m 458 (by decide +kernel) (by decide +kernel)
theorem dX4_needRange_10 : decode cX4_needRange 10 = .ok (.new 80, 3) := by decide +kernel
theorem dX4_needRange_13 : decode cX4_needRange 13 = .ok (.dup, 1) := by decide +kernel
theorem dX4_needRange_14 : decode cX4_needRange 14 = .ok (.ldc_w 337, 3) := by decide +kernel
theorem dX4_needRange_17 : decode cX4_needRange 17 = .ok (.invokespecial 84, 3) := by decide +kernel
theorem dX4_needRange_20 : decode cX4_needRange 20 = .ok (.athrow, 1) := by decide +kernel
theorem zw_415 : Cond.classLink RX4 80 "java/lang/IllegalArgumentException" ∈ z_Ts := z_m 415 (by decide +kernel) (by decide +kernel)
theorem zw_103 : Cond.initialized "java/lang/IllegalArgumentException" ∈ z_Ts := z_m 103 (by decide +kernel) (by decide +kernel)
theorem dX4_needRange_5 : decode cX4_needRange 5 = .ok (.iload_n 0, 1) := by decide +kernel
theorem dX4_needRange_6 : decode cX4_needRange 6 = .ok (.iload_n 2, 1) := by decide +kernel
theorem dX4_needRange_7 : decode cX4_needRange 7 = .ok (.if_icmp .le 14, 3) := by decide +kernel
theorem dX4_needRange_21 : decode cX4_needRange 21 = .ok (.return_, 1) := by decide +kernel
set_option maxHeartbeats 4000000 in
set_option maxRecDepth 100000 in
theorem c_X4_needRange (l : Launch) (hst : l.stackTraces = false) (D : va_G) (n0 : Int32) (lo : Int32) (hi : Int32) (sz : Nat)  : vx_Met l yX4_needRange [Cond.code yX4_needRange cX4_needRange 3 none] ({ frames := 6, cells := 1, slots := 6, locals := 100 }) (z_Pc D [.int n0, .int lo, .int hi] [] [] sz) (va_Qv (fun _ : Unit => ¬ (n0 < lo) ∧ n0 ≤ hi) (fun _ t => z_W D [] [] (va_A [] sz) t) (va_A [] sz)) (z_T (n0 < lo ∨ ¬ n0 ≤ hi) "java/lang/IllegalArgumentException" D [] [] sz) 1 6 (va_A [] sz) := by
  refine vx_ofW (cc := cX4_needRange) (maxL := 3) (ret := none) (by decide +kernel) rfl ?_
  intro p e s m args below meth c s₁ B hml hnt hv
  obtain ⟨rfl, hsz, hP, hK, hD0, hE, hX0⟩ := hv
  have hx := B.exec
  have hb := B.bytes
  have hr := B.returns
  have hts := z_E.ts (args := [.int n0, .int lo, .int hi].toArray) hE
  have hown : s.vm.findClass RX4 = some m.cls := findClass_of_methodNamed B.named
  have hlocks := B.notSynchronized
  subst hsz
  have hD := hD0.self (sz := s.heap.size)
  generalize hAe : va_A [] s.heap.size = A at hD hX0 ⊢
  have hX : z_X D A s s.heap := hX0
  have hA : ∀ q : Nat, s.heap.size ≤ q → A q := fun q h => by rw [← hAe]; exact Or.inr h
  have hS : va_S A s.heap s.heap [] := va_S.rf
  have hP : va_P D vwCl [] s.heap := hP
  have hl := lv_entry ([.int n0, .int lo, .int hi]) (n := 3) (Nat.le_of_ble_eq_true rfl)
  rw [lg_entry_eq]
  generalize (lg_sl ([.int n0, .int lo, .int hi]) ++ List.replicate (3 - (lg_sl ([.int n0, .int lo, .int hi])).length) Slot.unset).toArray = ls at hl ⊢
  have hl : lv_has ls 3 [(0, .int n0), (1, .int lo), (2, .int hi)] := hl
  skip
  refine lv_iload_n hx hb dX4_needRange_0 rfl (lv_at hl 0 rfl) ?_
  refine lv_iload_n hx hb dX4_needRange_1 rfl (lv_at hl 1 rfl) ?_
  refine lv_icmp_lt (tgt := 10) hx hb dX4_needRange_2 (by decide) (fun c_1 => ?_) (fun c_1 => ?_)
  · obtain ⟨sa_2, hsa_2⟩ := z_str hE zw_458
    exact vx_throwSW (A := A) (names := ["java/lang/RuntimeException", "java/lang/Exception"]) hx hb hst hown (by decide +kernel) (by decide +kernel) (hts _ zw_415) (hts _ zw_103) hsa_2 (z_hat hE zat_X4_84) zgd_X4_84 hX.1.1 hX.1.2 hS (hl.1.trans hml.symm) dX4_needRange_10 dX4_needRange_13 dX4_needRange_14 dX4_needRange_17 dX4_needRange_20 (fun x hx => (hnt x hx).elim) (Nat.le_of_ble_eq_true rfl) (Nat.le_of_ble_eq_true rfl) (Nat.le_of_ble_eq_true rfl) (Nat.le_of_ble_eq_true rfl) hlocks (z_thrown (Or.inl c_1) rfl hAe hP hK hD hS [] rfl rfl [] rfl) hS.2.2 (Nat.le_of_ble_eq_true rfl) (Nat.le_of_ble_eq_true rfl)
  · refine lv_iload_n hx hb dX4_needRange_5 rfl (lv_at hl 0 rfl) ?_
    refine lv_iload_n hx hb dX4_needRange_6 rfl (lv_at hl 2 rfl) ?_
    refine lv_icmp_le (tgt := 21) hx hb dX4_needRange_7 (by decide) (fun c_2 => ?_) (fun c_2 => ?_)
    · refine W.widen (k := 1) (n := 6) (Nat.le_of_ble_eq_true rfl) (Nat.le_of_ble_eq_true rfl) ?_
      exact vx_ret (W.vret hx hb hr (fun t ht hW => ⟨⟨(), rfl, ⟨c_1, c_2⟩, z_end hP hK hD [] rfl rfl [] rfl ht hW.alike⟩, hS.F ht⟩) hS.2.2 dX4_needRange_21)
    · obtain ⟨sa_3, hsa_3⟩ := z_str hE zw_458
      exact vx_throwSW (A := A) (names := ["java/lang/RuntimeException", "java/lang/Exception"]) hx hb hst hown (by decide +kernel) (by decide +kernel) (hts _ zw_415) (hts _ zw_103) hsa_3 (z_hat hE zat_X4_84) zgd_X4_84 hX.1.1 hX.1.2 hS (hl.1.trans hml.symm) dX4_needRange_10 dX4_needRange_13 dX4_needRange_14 dX4_needRange_17 dX4_needRange_20 (fun x hx => (hnt x hx).elim) (Nat.le_of_ble_eq_true rfl) (Nat.le_of_ble_eq_true rfl) (Nat.le_of_ble_eq_true rfl) (Nat.le_of_ble_eq_true rfl) hlocks (z_thrown (Or.inr c_2) rfl hAe hP hK hD hS [] rfl rfl [] rfl) hS.2.2 (Nat.le_of_ble_eq_true rfl) (Nat.le_of_ble_eq_true rfl)
