theorem z_strikeC {a x : Int32} (g : ¬ a < 1 ∧ a ≤ 30) (e : x = if (0 : Int32) < a then a else 0) : x = a := by
  rw [e, if_pos]
  have h1 := Int32.not_lt.mp g.1
  rw [Int32.le_iff_toInt_le] at h1
  rw [Int32.lt_iff_toInt_lt]
  have e0 : (0 : Int32).toInt = 0 := by decide
  have e1 : (1 : Int32).toInt = 1 := by decide
  omega
theorem dX4_strike_0 : decode cX4_strike 0 = .ok (.iload_n 1, 1) := by decide +kernel
theorem dX4_strike_1 : decode cX4_strike 1 = .ok (.iconst 1, 1) := by decide +kernel
theorem dX4_strike_2 : decode cX4_strike 2 = .ok (.bipush 30, 2) := by decide +kernel
theorem dX4_strike_4 : decode cX4_strike 4 = .ok (.invokestatic 57, 3) := by decide +kernel
theorem zw_412 : Cond.methodLink RX4 57 yX4_needRange ∈ z_Ts := z_m 412 (by decide +kernel) (by decide +kernel)
theorem zw_414 : Cond.code yX4_needRange cX4_needRange 3 none ∈ z_Ts := z_m 414 (by decide +kernel) (by decide +kernel)
theorem zw_413 : Cond.static yX4_needRange ∈ z_Ts := z_m 413 (by decide +kernel) (by decide +kernel)
theorem dX4_strike_7 : decode cX4_strike 7 = .ok (.aload_n 0, 1) := by decide +kernel
theorem dX4_strike_8 : decode cX4_strike 8 = .ok (.aload_n 0, 1) := by decide +kernel
theorem dX4_strike_9 : decode cX4_strike 9 = .ok (.getfield 51, 3) := by decide +kernel
theorem dX4_strike_12 : decode cX4_strike 12 = .ok (.iload_n 1, 1) := by decide +kernel
theorem dX4_strike_13 : decode cX4_strike 13 = .ok (.invokestatic 271, 3) := by decide +kernel
theorem zw_773 : Cond.methodLink RX4 271 yJ9_max_7cf53 ∈ z_Ts := z_m 773 (by decide +kernel) (by decide +kernel)
theorem dX4_strike_16 : decode cX4_strike 16 = .ok (.putfield 51, 3) := by decide +kernel
theorem dX4_strike_19 : decode cX4_strike 19 = .ok (.aload_n 0, 1) := by decide +kernel
theorem dX4_strike_20 : decode cX4_strike 20 = .ok (.getfield 51, 3) := by decide +kernel
theorem dX4_strike_23 : decode cX4_strike 23 = .ok (.ireturn, 1) := by decide +kernel
set_option maxHeartbeats 4000000 in
set_option maxRecDepth 100000 in
theorem k_X4_strike (l : Launch) (hst : l.stackTraces = false) (D : va_G) (h0 : Nat) (hu : Nat) (hs : Nat) (hc : Nat) (hp : Nat) (hg : Nat) (td : Int32) (a0 : Int32) (sz : Nat)  : vx_Met l yX4_strike [Cond.code yX4_strike cX4_strike 2 (some .int)] ({ frames := 7, cells := 1, slots := 6, locals := 130 }) (z_Pc D [.ref h0, .int a0] [(h0, .inr (6, [.ref hu, .ref hs, .ref hc, .ref hp, .ref hg, .int 0, .int 0, .int 0, .int td, .int 0]))] [] sz) (va_Qi (fun (r : Int32) (_ : Unit) => (¬ a0 < 1 ∧ a0 ≤ 30) ∧ r = a0) (fun _ t => z_W D [] [] (va_A [(h0, .inr (6, [.ref hu, .ref hs, .ref hc, .ref hp, .ref hg, .int 0, .int 0, .int 0, .int td, .int 0]))] sz) t) (va_A [(h0, .inr (6, [.ref hu, .ref hs, .ref hc, .ref hp, .ref hg, .int 0, .int 0, .int 0, .int td, .int 0]))] sz)) (z_T ((a0 < 1 ∨ ¬ a0 ≤ 30)) "java/lang/IllegalArgumentException" D [(h0, .inr (6, [.ref hu, .ref hs, .ref hc, .ref hp, .ref hg, .int 0, .int 0, .int 0, .int td, .int 0]))] [] sz) 1 6 (va_A [(h0, .inr (6, [.ref hu, .ref hs, .ref hc, .ref hp, .ref hg, .int 0, .int 0, .int 0, .int td, .int 0]))] sz) := by
  refine vx_ofW (cc := cX4_strike) (maxL := 2) (ret := (some .int)) (by decide +kernel) rfl ?_
  intro p e s m args below meth c s₁ B hml hnt hv
  obtain ⟨rfl, hsz, hP, hK, hD0, hE, hX0⟩ := hv
  have hx := B.exec
  have hb := B.bytes
  have hr := B.returns
  have hts := z_E.ts (args := [.ref h0, .int a0].toArray) hE
  have hown : s.vm.findClass RX4 = some m.cls := findClass_of_methodNamed B.named
  have hlocks := B.notSynchronized
  subst hsz
  have hD := hD0.self (sz := s.heap.size)
  generalize hAe : va_A [(h0, .inr (6, [.ref hu, .ref hs, .ref hc, .ref hp, .ref hg, .int 0, .int 0, .int 0, .int td, .int 0]))] s.heap.size = A at hD hX0 ⊢
  have hX : z_X D A s s.heap := hX0
  have hA : ∀ q : Nat, s.heap.size ≤ q → A q := fun q h => by rw [← hAe]; exact Or.inr h
  have hS : va_S A s.heap s.heap [] := va_S.rf
  have hP : va_P D vwCl [(h0, .inr (6, [.ref hu, .ref hs, .ref hc, .ref hp, .ref hg, .int 0, .int 0, .int 0, .int td, .int 0]))] s.heap := hP
  have hl := lv_entry ([.ref h0, .int a0]) (n := 2) (Nat.le_of_ble_eq_true rfl)
  rw [lg_entry_eq]
  generalize (lg_sl ([.ref h0, .int a0]) ++ List.replicate (2 - (lg_sl ([.ref h0, .int a0])).length) Slot.unset).toArray = ls at hl ⊢
  have hl : lv_has ls 2 [(0, .ref h0), (1, .int a0)] := hl
  skip
  refine lv_iload_n hx hb dX4_strike_0 rfl (lv_at hl 1 rfl) ?_
  refine lv_iconst (v := 1) hx hb dX4_strike_1 (by decide) ?_
  refine lv_bipush (v := 30) hx hb dX4_strike_2 (by decide) ?_
  obtain ⟨hb_1, hc_1⟩ := z_call (wc := []) (tc := []) ([.int a0, .int 1, .int 30]) hP hK hD hS hA hE hX [] rfl rfl [] rfl
  have hF_1 := va_free (wc := []) hD hS hA [] rfl
  refine vx_callv (vx_runS (As := [.int a0, .int 1, .int 30]) (rest := []) ⟨hx, hb, hml, hown, hts⟩ (c_X4_needRange l hst D a0 1 30 _ ) (⟨z_cB 3 hE zw_412 zw_91 zw_414 rfl rfl rfl (by decide +kernel) ⟨(Nat.le_of_ble_eq_true rfl), (Nat.le_of_ble_eq_true rfl)⟩, hE.ts _ zw_413⟩) ⟨hb_1, hc_1⟩ rfl rfl hl.1 rfl (lv_room (Nat.le_of_ble_eq_true rfl)) dX4_strike_4 ⟨(Nat.le_of_ble_eq_true rfl), (Nat.le_of_ble_eq_true rfl)⟩) hS (fun q _ h => hF_1 q h) hF_1 (fun q _ h => hF_1 q h) (fun E_1 ce_1 q9_1 u_1 t_1 H1 locs ht_1 hvm_1 hw_1 hB_1 hz_1 hk_1 hS1 hce_1 hcv_1 hcl_1 => ?_) (fun u_1 t_1 H1 locs ht_1 hvm_1 hw_1 hB_1 hz_1 hk_1 hS1 => ?_)
  · obtain ⟨rfl, hB_1⟩ := hB_1
    obtain ⟨hP, hK, hD⟩ := z_back (wc := []) (wr := [(h0, .inr (6, [.ref hu, .ref hs, .ref hc, .ref hp, .ref hg, .int 0, .int 0, .int 0, .int td, .int 0]))]) (w1 := []) (tr := []) hP hK hD [] [0] rfl rfl rfl (by decide) ht_1 hvm_1 hk_1 hF_1 [] rfl hB_1
    have hS := hS1
    have hP : va_P D vwCl [(h0, .inr (6, [.ref hu, .ref hs, .ref hc, .ref hp, .ref hg, .int 0, .int 0, .int 0, .int td, .int 0]))] H1 := hP
    have hD : va_D A [(h0, .inr (6, [.ref hu, .ref hs, .ref hc, .ref hp, .ref hg, .int 0, .int 0, .int 0, .int td, .int 0]))] := hD
    have hK : va_K D vwCl [] s := hK
    clear hS1
    exact vx_out (fun x hx => (hnt x hx).elim) hlocks hce_1 hcv_1 hcl_1 (fun t ht hvm => z_through hw_1 rfl hAe hP hK hD hS [0] rfl rfl [] rfl ht hvm) hS.2.2 (Nat.le_of_ble_eq_true rfl) (Nat.le_of_ble_eq_true rfl)
  · obtain ⟨hP, hK, hD⟩ := z_back (wc := []) (wr := [(h0, .inr (6, [.ref hu, .ref hs, .ref hc, .ref hp, .ref hg, .int 0, .int 0, .int 0, .int td, .int 0]))]) (w1 := []) (tr := []) hP hK hD [] [0] rfl rfl rfl (by decide) ht_1 hvm_1 hk_1 hF_1 [] rfl hB_1
    have hS := hS1
    have hP : va_P D vwCl [(h0, .inr (6, [.ref hu, .ref hs, .ref hc, .ref hp, .ref hg, .int 0, .int 0, .int 0, .int td, .int 0]))] H1 := hP
    have hD : va_D A [(h0, .inr (6, [.ref hu, .ref hs, .ref hc, .ref hp, .ref hg, .int 0, .int 0, .int 0, .int td, .int 0]))] := hD
    have hK : va_K D vwCl [] s := hK
    clear hS1
    refine lv_aload_n hx hb dX4_strike_7 rfl (lv_at hl 0 rfl) ?_
    refine lv_aload_n hx hb dX4_strike_8 rfl (lv_at hl 0 rfl) ?_
    refine va_get (D := D) (ci := 6) (v := .int 0) (C := RX4) (T := TX4) (N := 10) hx hb hts zin_X4 hown hK hP 0 rfl rfl 9 (by decide) (hts _ zw_295) (fun _ h9 => h9) rfl dX4_strike_9 ?_
    refine lv_iload_n hx hb dX4_strike_12 rfl (lv_at hl 1 rfl) ?_
    refine va_mmax hx hb (hml.trans hl.1.symm) hown (hts _ zw_773) (hts _ zw_774) (hts _ zw_108) (hts _ zw_775) (Nat.le_of_ble_eq_true rfl) (Nat.le_of_ble_eq_true rfl) (Nat.le_of_ble_eq_true rfl) (Nat.le_of_ble_eq_true rfl) dX4_strike_13 ?_
    refine lv_topi (fun x_2 ex_2 => ?_)
    refine va_put (D := D) (ci := 6) (v := .int x_2) (ty := .int) (C := RX4) (T := TX4) (N := 10) hx hb hts zin_X4 tyX4 tyX4_ok nmX4 hown hK hP hD hS 0 rfl rfl 9 (by decide) (hts _ zw_295) (fun _ h9 => h9) rfl (by decide +kernel) rfl rfl (Nat.le_of_ble_eq_true rfl) dX4_strike_16 (fun H locs hP hD hS => ?_)
    have hP : va_P D vwCl [(h0, .inr (6, [.ref hu, .ref hs, .ref hc, .ref hp, .ref hg, .int 0, .int 0, .int 0, .int td, .int x_2]))] H := hP
    have hD : va_D A [(h0, .inr (6, [.ref hu, .ref hs, .ref hc, .ref hp, .ref hg, .int 0, .int 0, .int 0, .int td, .int x_2]))] := hD
    refine lv_aload_n hx hb dX4_strike_19 rfl (lv_at hl 0 rfl) ?_
    refine va_get (D := D) (ci := 6) (v := .int x_2) (C := RX4) (T := TX4) (N := 10) hx hb hts zin_X4 hown hK hP 0 rfl rfl 9 (by decide) (hts _ zw_295) (fun _ h9 => h9) rfl dX4_strike_20 ?_
    exact vx_ret (W.iret (v := x_2) hx hb hr (fun t ht hW => ⟨⟨x_2, (), rfl, ⟨hw_1, z_strikeC hw_1 ex_2⟩, z_end hP hK hD [] rfl rfl [] rfl ht hW.alike⟩, hS.F ht⟩) hS.2.2 dX4_strike_23)
theorem z_vpC {x hi : Int32} {n : Nat} (h2 : hi.toInt = (n : Int) - 1) (h : ¬ x < 0 ∧ x ≤ hi) : vp_in x n := by
  rw [vp_in_iff]
  have h1 := Int32.not_lt.mp h.1
  have h3 := h.2
  rw [Int32.le_iff_toInt_le] at h1 h3
  have e0 : (0 : Int32).toInt = 0 := by decide
  rw [e0] at h1
  omega
theorem dX4_setPeople_0 : decode cX4_setPeople 0 = .ok (.iload_n 1, 1) := by decide +kernel
theorem dX4_setPeople_1 : decode cX4_setPeople 1 = .ok (.iconst 0, 1) := by decide +kernel
theorem dX4_setPeople_2 : decode cX4_setPeople 2 = .ok (.bipush 6, 2) := by decide +kernel
theorem dX4_setPeople_4 : decode cX4_setPeople 4 = .ok (.invokestatic 57, 3) := by decide +kernel
theorem dX4_setPeople_7 : decode cX4_setPeople 7 = .ok (.iload_n 2, 1) := by decide +kernel
theorem dX4_setPeople_8 : decode cX4_setPeople 8 = .ok (.iconst 0, 1) := by decide +kernel
theorem dX4_setPeople_9 : decode cX4_setPeople 9 = .ok (.sipush 999, 3) := by decide +kernel
theorem dX4_setPeople_12 : decode cX4_setPeople 12 = .ok (.invokestatic 57, 3) := by decide +kernel
theorem dX4_setPeople_15 : decode cX4_setPeople 15 = .ok (.aload_n 0, 1) := by decide +kernel
theorem dX4_setPeople_16 : decode cX4_setPeople 16 = .ok (.getfield 27, 3) := by decide +kernel
theorem dX4_setPeople_19 : decode cX4_setPeople 19 = .ok (.iload_n 1, 1) := by decide +kernel
theorem dX4_setPeople_20 : decode cX4_setPeople 20 = .ok (.iaload, 1) := by decide +kernel
theorem dX4_setPeople_21 : decode cX4_setPeople 21 = .ok (.istore_n 3, 1) := by decide +kernel
theorem dX4_setPeople_22 : decode cX4_setPeople 22 = .ok (.aload_n 0, 1) := by decide +kernel
theorem dX4_setPeople_23 : decode cX4_setPeople 23 = .ok (.getfield 27, 3) := by decide +kernel
theorem dX4_setPeople_26 : decode cX4_setPeople 26 = .ok (.iload_n 1, 1) := by decide +kernel
theorem dX4_setPeople_27 : decode cX4_setPeople 27 = .ok (.iload_n 2, 1) := by decide +kernel
theorem dX4_setPeople_28 : decode cX4_setPeople 28 = .ok (.iastore, 1) := by decide +kernel
theorem dX4_setPeople_29 : decode cX4_setPeople 29 = .ok (.iload_n 3, 1) := by decide +kernel
theorem dX4_setPeople_30 : decode cX4_setPeople 30 = .ok (.ireturn, 1) := by decide +kernel
set_option maxHeartbeats 4000000 in
set_option maxRecDepth 100000 in
theorem k_X4_setPeople (l : Launch) (hst : l.stackTraces = false) (D : va_G) (h0 : Nat) (hu : Nat) (hs : Nat) (hc : Nat) (hp : Nat) (hg : Nat) (td : Int32) (sd : Int32) (fp : Nat → Int32) (cP : ClassId) (a0 : Int32) (a1 : Int32) (sz : Nat) (hfp : ∀ j : Nat, j < 7 → fp j = 100) : vx_Met l yX4_setPeople [Cond.code yX4_setPeople cX4_setPeople 4 (some .int)] ({ frames := 7, cells := 2, slots := 12, locals := 130 }) (z_Pc D [.ref h0, .int a0, .int a1] [(h0, .inr (6, [.ref hu, .ref hs, .ref hc, .ref hp, .ref hg, .int 0, .int 0, .int 0, .int td, .int sd])), (hp, .inl (cP, 7, .inl fp))] [(cP, .int)] sz) (va_Qi (fun (r : Int32) (_ : Unit) => ((¬ a0 < 0 ∧ a0 ≤ 6) ∧ (¬ a1 < 0 ∧ a1 ≤ 999)) ∧ r = 100) (fun _ t => z_W D [] [] (va_A [(h0, .inr (6, [.ref hu, .ref hs, .ref hc, .ref hp, .ref hg, .int 0, .int 0, .int 0, .int td, .int sd])), (hp, .inl (cP, 7, .inl fp))] sz) t) (va_A [(h0, .inr (6, [.ref hu, .ref hs, .ref hc, .ref hp, .ref hg, .int 0, .int 0, .int 0, .int td, .int sd])), (hp, .inl (cP, 7, .inl fp))] sz)) (z_T ((a0 < 0 ∨ ¬ a0 ≤ 6) ∨ (a1 < 0 ∨ ¬ a1 ≤ 999)) "java/lang/IllegalArgumentException" D [(h0, .inr (6, [.ref hu, .ref hs, .ref hc, .ref hp, .ref hg, .int 0, .int 0, .int 0, .int td, .int sd])), (hp, .inl (cP, 7, .inl fp))] [(cP, .int)] sz) 2 12 (va_A [(h0, .inr (6, [.ref hu, .ref hs, .ref hc, .ref hp, .ref hg, .int 0, .int 0, .int 0, .int td, .int sd])), (hp, .inl (cP, 7, .inl fp))] sz) := by
  refine vx_ofW (cc := cX4_setPeople) (maxL := 4) (ret := (some .int)) (by decide +kernel) rfl ?_
  intro p e s m args below meth c s₁ B hml hnt hv
  obtain ⟨rfl, hsz, hP, hK, hD0, hE, hX0⟩ := hv
  have hx := B.exec
  have hb := B.bytes
  have hr := B.returns
  have hts := z_E.ts (args := [.ref h0, .int a0, .int a1].toArray) hE
  have hown : s.vm.findClass RX4 = some m.cls := findClass_of_methodNamed B.named
  have hlocks := B.notSynchronized
  subst hsz
  have hD := hD0.self (sz := s.heap.size)
  generalize hAe : va_A [(h0, .inr (6, [.ref hu, .ref hs, .ref hc, .ref hp, .ref hg, .int 0, .int 0, .int 0, .int td, .int sd])), (hp, .inl (cP, 7, .inl fp))] s.heap.size = A at hD hX0 ⊢
  have hX : z_X D A s s.heap := hX0
  have hA : ∀ q : Nat, s.heap.size ≤ q → A q := fun q h => by rw [← hAe]; exact Or.inr h
  have hS : va_S A s.heap s.heap [] := va_S.rf
  have hP : va_P D vwCl [(h0, .inr (6, [.ref hu, .ref hs, .ref hc, .ref hp, .ref hg, .int 0, .int 0, .int 0, .int td, .int sd])), (hp, .inl (cP, 7, .inl fp))] s.heap := hP
  have hl := lv_entry ([.ref h0, .int a0, .int a1]) (n := 4) (Nat.le_of_ble_eq_true rfl)
  rw [lg_entry_eq]
  generalize (lg_sl ([.ref h0, .int a0, .int a1]) ++ List.replicate (4 - (lg_sl ([.ref h0, .int a0, .int a1])).length) Slot.unset).toArray = ls at hl ⊢
  have hl : lv_has ls 4 [(0, .ref h0), (1, .int a0), (2, .int a1)] := hl
  skip
  refine lv_iload_n hx hb dX4_setPeople_0 rfl (lv_at hl 1 rfl) ?_
  refine lv_iconst (v := 0) hx hb dX4_setPeople_1 (by decide) ?_
  refine lv_bipush (v := 6) hx hb dX4_setPeople_2 (by decide) ?_
  obtain ⟨hb_1, hc_1⟩ := z_call (wc := []) (tc := []) ([.int a0, .int 0, .int 6]) hP hK hD hS hA hE hX [] rfl rfl [] rfl
  have hF_1 := va_free (wc := []) hD hS hA [] rfl
  refine vx_callv (vx_runS (As := [.int a0, .int 0, .int 6]) (rest := []) ⟨hx, hb, hml, hown, hts⟩ (c_X4_needRange l hst D a0 0 6 _ ) (⟨z_cB 3 hE zw_412 zw_91 zw_414 rfl rfl rfl (by decide +kernel) ⟨(Nat.le_of_ble_eq_true rfl), (Nat.le_of_ble_eq_true rfl)⟩, hE.ts _ zw_413⟩) ⟨hb_1, hc_1⟩ rfl rfl hl.1 rfl (lv_room (Nat.le_of_ble_eq_true rfl)) dX4_setPeople_4 ⟨(Nat.le_of_ble_eq_true rfl), (Nat.le_of_ble_eq_true rfl)⟩) hS (fun q _ h => hF_1 q h) hF_1 (fun q _ h => hF_1 q h) (fun E_1 ce_1 q9_1 u_1 t_1 H1 locs ht_1 hvm_1 hw_1 hB_1 hz_1 hk_1 hS1 hce_1 hcv_1 hcl_1 => ?_) (fun u_1 t_1 H1 locs ht_1 hvm_1 hw_1 hB_1 hz_1 hk_1 hS1 => ?_)
  · obtain ⟨rfl, hB_1⟩ := hB_1
    obtain ⟨hP, hK, hD⟩ := z_back (wc := []) (wr := [(h0, .inr (6, [.ref hu, .ref hs, .ref hc, .ref hp, .ref hg, .int 0, .int 0, .int 0, .int td, .int sd])), (hp, .inl (cP, 7, .inl fp))]) (w1 := []) (tr := [(cP, .int)]) hP hK hD [] [0, 1] rfl rfl rfl (by decide) ht_1 hvm_1 hk_1 hF_1 [0] rfl hB_1
    have hS := hS1
    have hP : va_P D vwCl [(h0, .inr (6, [.ref hu, .ref hs, .ref hc, .ref hp, .ref hg, .int 0, .int 0, .int 0, .int td, .int sd])), (hp, .inl (cP, 7, .inl fp))] H1 := hP
    have hD : va_D A [(h0, .inr (6, [.ref hu, .ref hs, .ref hc, .ref hp, .ref hg, .int 0, .int 0, .int 0, .int td, .int sd])), (hp, .inl (cP, 7, .inl fp))] := hD
    have hK : va_K D vwCl [(cP, .int)] s := hK
    clear hS1
    exact vx_out (fun x hx => (hnt x hx).elim) hlocks hce_1 hcv_1 hcl_1 (fun t ht hvm => z_through (Or.inl hw_1) rfl hAe hP hK hD hS [0, 1] rfl rfl [0] rfl ht hvm) hS.2.2 (Nat.le_of_ble_eq_true rfl) (Nat.le_of_ble_eq_true rfl)
  · obtain ⟨hP, hK, hD⟩ := z_back (wc := []) (wr := [(h0, .inr (6, [.ref hu, .ref hs, .ref hc, .ref hp, .ref hg, .int 0, .int 0, .int 0, .int td, .int sd])), (hp, .inl (cP, 7, .inl fp))]) (w1 := []) (tr := [(cP, .int)]) hP hK hD [] [0, 1] rfl rfl rfl (by decide) ht_1 hvm_1 hk_1 hF_1 [0] rfl hB_1
    have hS := hS1
    have hP : va_P D vwCl [(h0, .inr (6, [.ref hu, .ref hs, .ref hc, .ref hp, .ref hg, .int 0, .int 0, .int 0, .int td, .int sd])), (hp, .inl (cP, 7, .inl fp))] H1 := hP
    have hD : va_D A [(h0, .inr (6, [.ref hu, .ref hs, .ref hc, .ref hp, .ref hg, .int 0, .int 0, .int 0, .int td, .int sd])), (hp, .inl (cP, 7, .inl fp))] := hD
    have hK : va_K D vwCl [(cP, .int)] s := hK
    clear hS1
    refine lv_iload_n hx hb dX4_setPeople_7 rfl (lv_at hl 2 rfl) ?_
    refine lv_iconst (v := 0) hx hb dX4_setPeople_8 (by decide) ?_
    refine lv_sipush (v := 999) hx hb dX4_setPeople_9 (by decide) ?_
    obtain ⟨hb_2, hc_2⟩ := z_call (wc := []) (tc := []) ([.int a1, .int 0, .int 999]) hP hK hD hS hA hE hX [] rfl rfl [] rfl
    have hF_2 := va_free (wc := []) hD hS hA [] rfl
    refine vx_callv (vx_runS (As := [.int a1, .int 0, .int 999]) (rest := []) ⟨hx, hb, hml, hown, hts⟩ (c_X4_needRange l hst D a1 0 999 _ ) (⟨z_cB 3 hE zw_412 zw_91 zw_414 rfl rfl rfl (by decide +kernel) ⟨(Nat.le_of_ble_eq_true rfl), (Nat.le_of_ble_eq_true rfl)⟩, hE.ts _ zw_413⟩) ⟨hb_2, hc_2⟩ rfl rfl hl.1 rfl (lv_room (Nat.le_of_ble_eq_true rfl)) dX4_setPeople_12 ⟨(Nat.le_of_ble_eq_true rfl), (Nat.le_of_ble_eq_true rfl)⟩) hS (fun q _ h => hF_2 q h) hF_2 (fun q _ h => hF_2 q h) (fun E_2 ce_2 q9_2 u_2 t_2 H1 locs ht_2 hvm_2 hw_2 hB_2 hz_2 hk_2 hS1 hce_2 hcv_2 hcl_2 => ?_) (fun u_2 t_2 H1 locs ht_2 hvm_2 hw_2 hB_2 hz_2 hk_2 hS1 => ?_)
    · obtain ⟨rfl, hB_2⟩ := hB_2
      obtain ⟨hP, hK, hD⟩ := z_back (wc := []) (wr := [(h0, .inr (6, [.ref hu, .ref hs, .ref hc, .ref hp, .ref hg, .int 0, .int 0, .int 0, .int td, .int sd])), (hp, .inl (cP, 7, .inl fp))]) (w1 := []) (tr := [(cP, .int)]) hP hK hD [] [0, 1] rfl rfl rfl (by decide) ht_2 hvm_2 hk_2 hF_2 [0] rfl hB_2
      have hS := hS1
      have hP : va_P D vwCl [(h0, .inr (6, [.ref hu, .ref hs, .ref hc, .ref hp, .ref hg, .int 0, .int 0, .int 0, .int td, .int sd])), (hp, .inl (cP, 7, .inl fp))] H1 := hP
      have hD : va_D A [(h0, .inr (6, [.ref hu, .ref hs, .ref hc, .ref hp, .ref hg, .int 0, .int 0, .int 0, .int td, .int sd])), (hp, .inl (cP, 7, .inl fp))] := hD
      have hK : va_K D vwCl [(cP, .int)] s := hK
      clear hS1
      exact vx_out (fun x hx => (hnt x hx).elim) hlocks hce_2 hcv_2 hcl_2 (fun t ht hvm => z_through (Or.inr hw_2) rfl hAe hP hK hD hS [0, 1] rfl rfl [0] rfl ht hvm) hS.2.2 (Nat.le_of_ble_eq_true rfl) (Nat.le_of_ble_eq_true rfl)
    · obtain ⟨hP, hK, hD⟩ := z_back (wc := []) (wr := [(h0, .inr (6, [.ref hu, .ref hs, .ref hc, .ref hp, .ref hg, .int 0, .int 0, .int 0, .int td, .int sd])), (hp, .inl (cP, 7, .inl fp))]) (w1 := []) (tr := [(cP, .int)]) hP hK hD [] [0, 1] rfl rfl rfl (by decide) ht_2 hvm_2 hk_2 hF_2 [0] rfl hB_2
      have hS := hS1
      have hP : va_P D vwCl [(h0, .inr (6, [.ref hu, .ref hs, .ref hc, .ref hp, .ref hg, .int 0, .int 0, .int 0, .int td, .int sd])), (hp, .inl (cP, 7, .inl fp))] H1 := hP
      have hD : va_D A [(h0, .inr (6, [.ref hu, .ref hs, .ref hc, .ref hp, .ref hg, .int 0, .int 0, .int 0, .int td, .int sd])), (hp, .inl (cP, 7, .inl fp))] := hD
      have hK : va_K D vwCl [(cP, .int)] s := hK
      clear hS1
      refine lv_aload_n hx hb dX4_setPeople_15 rfl (lv_at hl 0 rfl) ?_
      refine va_get (D := D) (ci := 6) (v := .ref hp) (C := RX4) (T := TX4) (N := 10) hx hb hts zin_X4 hown hK hP 0 rfl rfl 3 (by decide) (hts _ zw_289) (fun _ h9 => h9) rfl dX4_setPeople_16 ?_
      refine lv_iload_n hx hb dX4_setPeople_19 rfl (lv_at hl 1 rfl) ?_
      have hin1 : vp_in a0 7 := z_vpC (hi := 6) (by decide) hw_1
      have hin2 : a0.toNatClampNeg < 7 := Nat.not_le.mp fun q => hin1 (Or.inr q)
      refine va_iald hx hb hK hP 1 0 rfl rfl (i := a0) hin1 dX4_setPeople_20 ?_
      refine lv_istore_n (lv' := [(3, .int ((fp) (a0 : Int32).toNatClampNeg)), (0, .ref h0), (1, .int a0), (2, .int a1)]) hx hb dX4_setPeople_21 rfl hl (by decide) rfl (fun ls hl => ?_)
      refine lv_aload_n hx hb dX4_setPeople_22 rfl (lv_at hl 1 rfl) ?_
      refine va_get (D := D) (ci := 6) (v := .ref hp) (C := RX4) (T := TX4) (N := 10) hx hb hts zin_X4 hown hK hP 0 rfl rfl 3 (by decide) (hts _ zw_289) (fun _ h9 => h9) rfl dX4_setPeople_23 ?_
      refine lv_iload_n hx hb dX4_setPeople_26 rfl (lv_at hl 2 rfl) ?_
      refine lv_iload_n hx hb dX4_setPeople_27 rfl (lv_at hl 3 rfl) ?_
      refine va_iast hx hb hK hP hD hS 1 0 rfl rfl (i := a0) hin1 dX4_setPeople_28 (fun H locs hP hD hS => ?_)
      have hP : va_P D vwCl [(h0, .inr (6, [.ref hu, .ref hs, .ref hc, .ref hp, .ref hg, .int 0, .int 0, .int 0, .int td, .int sd])), (hp, .inl (cP, 7, .inl (upd fp (a0 : Int32).toNatClampNeg a1)))] H := hP
      have hD : va_D A [(h0, .inr (6, [.ref hu, .ref hs, .ref hc, .ref hp, .ref hg, .int 0, .int 0, .int 0, .int td, .int sd])), (hp, .inl (cP, 7, .inl (upd fp (a0 : Int32).toNatClampNeg a1)))] := hD
      refine lv_iload_n hx hb dX4_setPeople_29 rfl (lv_at hl 0 rfl) ?_
      exact vx_ret (W.iret (v := ((fp) (a0 : Int32).toNatClampNeg)) hx hb hr (fun t ht hW => ⟨⟨((fp) (a0 : Int32).toNatClampNeg), (), rfl, ⟨⟨hw_1, hw_2⟩, hfp _ hin2⟩, z_end hP hK hD [] rfl rfl [] rfl ht hW.alike⟩, hS.F ht⟩) hS.2.2 dX4_setPeople_30)
theorem dX4_addUnit_0 : decode cX4_addUnit 0 = .ok (.iload_n 1, 1) := by decide +kernel
theorem dX4_addUnit_1 : decode cX4_addUnit 1 = .ok (.iconst 4, 1) := by decide +kernel
theorem dX4_addUnit_2 : decode cX4_addUnit 2 = .ok (.bipush 12, 2) := by decide +kernel
theorem dX4_addUnit_4 : decode cX4_addUnit 4 = .ok (.invokestatic 57, 3) := by decide +kernel
theorem dX4_addUnit_7 : decode cX4_addUnit 7 = .ok (.aload_n 0, 1) := by decide +kernel
theorem dX4_addUnit_8 : decode cX4_addUnit 8 = .ok (.getfield 42, 3) := by decide +kernel
theorem dX4_addUnit_11 : decode cX4_addUnit 11 = .ok (.ifCond .le 13, 3) := by decide +kernel
theorem dX4_addUnit_24 : decode cX4_addUnit 24 = .ok (.aload_n 0, 1) := by decide +kernel
theorem dX4_addUnit_25 : decode cX4_addUnit 25 = .ok (.getfield 38, 3) := by decide +kernel
theorem dX4_addUnit_28 : decode cX4_addUnit 28 = .ok (.bipush 10, 2) := by decide +kernel
theorem dX4_addUnit_30 : decode cX4_addUnit 30 = .ok (.if_icmp .lt 13, 3) := by decide +kernel
theorem dX4_addUnit_43 : decode cX4_addUnit 43 = .ok (.aload_n 0, 1) := by decide +kernel
theorem dX4_addUnit_44 : decode cX4_addUnit 44 = .ok (.getfield 11, 3) := by decide +kernel
theorem dX4_addUnit_47 : decode cX4_addUnit 47 = .ok (.aload_n 0, 1) := by decide +kernel
theorem dX4_addUnit_48 : decode cX4_addUnit 48 = .ok (.getfield 38, 3) := by decide +kernel
theorem dX4_addUnit_51 : decode cX4_addUnit 51 = .ok (.aaload, 1) := by decide +kernel
theorem dX4_addUnit_52 : decode cX4_addUnit 52 = .ok (.iload_n 1, 1) := by decide +kernel
theorem dX4_addUnit_53 : decode cX4_addUnit 53 = .ok (.putfield 73, 3) := by decide +kernel
theorem zw_179 : Cond.fieldLinkNest RX4 73 "TwofrontArcade$Unit" "width" "I" "TwofrontArcade" ∈ z_Ts := z_m 179 (by decide +kernel) (by decide +kernel)
theorem dX4_addUnit_56 : decode cX4_addUnit 56 = .ok (.aload_n 0, 1) := by decide +kernel
theorem dX4_addUnit_57 : decode cX4_addUnit 57 = .ok (.dup, 1) := by decide +kernel
theorem dX4_addUnit_58 : decode cX4_addUnit 58 = .ok (.getfield 38, 3) := by decide +kernel
theorem dX4_addUnit_61 : decode cX4_addUnit 61 = .ok (.iconst 1, 1) := by decide +kernel
theorem dX4_addUnit_62 : decode cX4_addUnit 62 = .ok (.iadd, 1) := by decide +kernel
theorem dX4_addUnit_63 : decode cX4_addUnit 63 = .ok (.putfield 38, 3) := by decide +kernel
theorem dX4_addUnit_66 : decode cX4_addUnit 66 = .ok (.aload_n 0, 1) := by decide +kernel
theorem dX4_addUnit_67 : decode cX4_addUnit 67 = .ok (.getfield 38, 3) := by decide +kernel
theorem dX4_addUnit_70 : decode cX4_addUnit 70 = .ok (.iconst 1, 1) := by decide +kernel
theorem dX4_addUnit_71 : decode cX4_addUnit 71 = .ok (.isub, 1) := by decide +kernel
theorem dX4_addUnit_72 : decode cX4_addUnit 72 = .ok (.ireturn, 1) := by decide +kernel
set_option maxHeartbeats 4000000 in
set_option maxRecDepth 100000 in
theorem k_X4_addUnit (l : Launch) (hst : l.stackTraces = false) (D : va_G) (h0 : Nat) (hu : Nat) (hs : Nat) (hc : Nat) (hp : Nat) (hg : Nat) (td : Int32) (sd : Int32) (cU : ClassId) (fu : Nat → Option Nat) (u0 : Nat) (ul : Nat) (a0 : Int32) (sz : Nat) (hfu : fu 0 = some u0) : vx_Met l yX4_addUnit [Cond.code yX4_addUnit cX4_addUnit 2 (some .int)] ({ frames := 7, cells := 1, slots := 6, locals := 130 }) (z_Pc D [.ref h0, .int a0] [(h0, .inr (6, [.ref hu, .ref hs, .ref hc, .ref hp, .ref hg, .int 0, .int 0, .int 0, .int td, .int sd])), (hu, .inl (cU, 10, .inr (.inr (.inr (.inr fu))))), (u0, .inr (5, [.ref ul, .int 0, .int 0, .int 45, .int 0, .int 0, .int (-1)]))] [(cU, .object RX3)] sz) (va_Qi (fun (r : Int32) (_ : Unit) => (¬ a0 < 4 ∧ a0 ≤ 12) ∧ r = 0) (fun _ t => z_W D [] [] (va_A [(h0, .inr (6, [.ref hu, .ref hs, .ref hc, .ref hp, .ref hg, .int 0, .int 0, .int 0, .int td, .int sd])), (hu, .inl (cU, 10, .inr (.inr (.inr (.inr fu))))), (u0, .inr (5, [.ref ul, .int 0, .int 0, .int 45, .int 0, .int 0, .int (-1)]))] sz) t) (va_A [(h0, .inr (6, [.ref hu, .ref hs, .ref hc, .ref hp, .ref hg, .int 0, .int 0, .int 0, .int td, .int sd])), (hu, .inl (cU, 10, .inr (.inr (.inr (.inr fu))))), (u0, .inr (5, [.ref ul, .int 0, .int 0, .int 45, .int 0, .int 0, .int (-1)]))] sz)) (z_T ((a0 < 4 ∨ ¬ a0 ≤ 12)) "java/lang/IllegalArgumentException" D [(h0, .inr (6, [.ref hu, .ref hs, .ref hc, .ref hp, .ref hg, .int 0, .int 0, .int 0, .int td, .int sd])), (hu, .inl (cU, 10, .inr (.inr (.inr (.inr fu))))), (u0, .inr (5, [.ref ul, .int 0, .int 0, .int 45, .int 0, .int 0, .int (-1)]))] [(cU, .object RX3)] sz) 1 6 (va_A [(h0, .inr (6, [.ref hu, .ref hs, .ref hc, .ref hp, .ref hg, .int 0, .int 0, .int 0, .int td, .int sd])), (hu, .inl (cU, 10, .inr (.inr (.inr (.inr fu))))), (u0, .inr (5, [.ref ul, .int 0, .int 0, .int 45, .int 0, .int 0, .int (-1)]))] sz) := by
  refine vx_ofW (cc := cX4_addUnit) (maxL := 2) (ret := (some .int)) (by decide +kernel) rfl ?_
  intro p e s m args below meth c s₁ B hml hnt hv
  obtain ⟨rfl, hsz, hP, hK, hD0, hE, hX0⟩ := hv
  have hx := B.exec
  have hb := B.bytes
  have hr := B.returns
  have hts := z_E.ts (args := [.ref h0, .int a0].toArray) hE
  have hown : s.vm.findClass RX4 = some m.cls := findClass_of_methodNamed B.named
  have hlocks := B.notSynchronized
  subst hsz
  have hD := hD0.self (sz := s.heap.size)
  generalize hAe : va_A [(h0, .inr (6, [.ref hu, .ref hs, .ref hc, .ref hp, .ref hg, .int 0, .int 0, .int 0, .int td, .int sd])), (hu, .inl (cU, 10, .inr (.inr (.inr (.inr fu))))), (u0, .inr (5, [.ref ul, .int 0, .int 0, .int 45, .int 0, .int 0, .int (-1)]))] s.heap.size = A at hD hX0 ⊢
  have hX : z_X D A s s.heap := hX0
  have hA : ∀ q : Nat, s.heap.size ≤ q → A q := fun q h => by rw [← hAe]; exact Or.inr h
  have hS : va_S A s.heap s.heap [] := va_S.rf
  have hP : va_P D vwCl [(h0, .inr (6, [.ref hu, .ref hs, .ref hc, .ref hp, .ref hg, .int 0, .int 0, .int 0, .int td, .int sd])), (hu, .inl (cU, 10, .inr (.inr (.inr (.inr fu))))), (u0, .inr (5, [.ref ul, .int 0, .int 0, .int 45, .int 0, .int 0, .int (-1)]))] s.heap := hP
  have hl := lv_entry ([.ref h0, .int a0]) (n := 2) (Nat.le_of_ble_eq_true rfl)
  rw [lg_entry_eq]
  generalize (lg_sl ([.ref h0, .int a0]) ++ List.replicate (2 - (lg_sl ([.ref h0, .int a0])).length) Slot.unset).toArray = ls at hl ⊢
  have hl : lv_has ls 2 [(0, .ref h0), (1, .int a0)] := hl
  skip
  refine lv_iload_n hx hb dX4_addUnit_0 rfl (lv_at hl 1 rfl) ?_
  refine lv_iconst (v := 4) hx hb dX4_addUnit_1 (by decide) ?_
  refine lv_bipush (v := 12) hx hb dX4_addUnit_2 (by decide) ?_
  obtain ⟨hb_1, hc_1⟩ := z_call (wc := []) (tc := []) ([.int a0, .int 4, .int 12]) hP hK hD hS hA hE hX [] rfl rfl [] rfl
  have hF_1 := va_free (wc := []) hD hS hA [] rfl
  refine vx_callv (vx_runS (As := [.int a0, .int 4, .int 12]) (rest := []) ⟨hx, hb, hml, hown, hts⟩ (c_X4_needRange l hst D a0 4 12 _ ) (⟨z_cB 3 hE zw_412 zw_91 zw_414 rfl rfl rfl (by decide +kernel) ⟨(Nat.le_of_ble_eq_true rfl), (Nat.le_of_ble_eq_true rfl)⟩, hE.ts _ zw_413⟩) ⟨hb_1, hc_1⟩ rfl rfl hl.1 rfl (lv_room (Nat.le_of_ble_eq_true rfl)) dX4_addUnit_4 ⟨(Nat.le_of_ble_eq_true rfl), (Nat.le_of_ble_eq_true rfl)⟩) hS (fun q _ h => hF_1 q h) hF_1 (fun q _ h => hF_1 q h) (fun E_1 ce_1 q9_1 u_1 t_1 H1 locs ht_1 hvm_1 hw_1 hB_1 hz_1 hk_1 hS1 hce_1 hcv_1 hcl_1 => ?_) (fun u_1 t_1 H1 locs ht_1 hvm_1 hw_1 hB_1 hz_1 hk_1 hS1 => ?_)
  · obtain ⟨rfl, hB_1⟩ := hB_1
    obtain ⟨hP, hK, hD⟩ := z_back (wc := []) (wr := [(h0, .inr (6, [.ref hu, .ref hs, .ref hc, .ref hp, .ref hg, .int 0, .int 0, .int 0, .int td, .int sd])), (hu, .inl (cU, 10, .inr (.inr (.inr (.inr fu))))), (u0, .inr (5, [.ref ul, .int 0, .int 0, .int 45, .int 0, .int 0, .int (-1)]))]) (w1 := []) (tr := [(cU, .object RX3)]) hP hK hD [] [0, 1, 2] rfl rfl rfl (by decide) ht_1 hvm_1 hk_1 hF_1 [0] rfl hB_1
    have hS := hS1
    have hP : va_P D vwCl [(h0, .inr (6, [.ref hu, .ref hs, .ref hc, .ref hp, .ref hg, .int 0, .int 0, .int 0, .int td, .int sd])), (hu, .inl (cU, 10, .inr (.inr (.inr (.inr fu))))), (u0, .inr (5, [.ref ul, .int 0, .int 0, .int 45, .int 0, .int 0, .int (-1)]))] H1 := hP
    have hD : va_D A [(h0, .inr (6, [.ref hu, .ref hs, .ref hc, .ref hp, .ref hg, .int 0, .int 0, .int 0, .int td, .int sd])), (hu, .inl (cU, 10, .inr (.inr (.inr (.inr fu))))), (u0, .inr (5, [.ref ul, .int 0, .int 0, .int 45, .int 0, .int 0, .int (-1)]))] := hD
    have hK : va_K D vwCl [(cU, .object RX3)] s := hK
    clear hS1
    exact vx_out (fun x hx => (hnt x hx).elim) hlocks hce_1 hcv_1 hcl_1 (fun t ht hvm => z_through hw_1 rfl hAe hP hK hD hS [0, 1, 2] rfl rfl [0] rfl ht hvm) hS.2.2 (Nat.le_of_ble_eq_true rfl) (Nat.le_of_ble_eq_true rfl)
  · obtain ⟨hP, hK, hD⟩ := z_back (wc := []) (wr := [(h0, .inr (6, [.ref hu, .ref hs, .ref hc, .ref hp, .ref hg, .int 0, .int 0, .int 0, .int td, .int sd])), (hu, .inl (cU, 10, .inr (.inr (.inr (.inr fu))))), (u0, .inr (5, [.ref ul, .int 0, .int 0, .int 45, .int 0, .int 0, .int (-1)]))]) (w1 := []) (tr := [(cU, .object RX3)]) hP hK hD [] [0, 1, 2] rfl rfl rfl (by decide) ht_1 hvm_1 hk_1 hF_1 [0] rfl hB_1
    have hS := hS1
    have hP : va_P D vwCl [(h0, .inr (6, [.ref hu, .ref hs, .ref hc, .ref hp, .ref hg, .int 0, .int 0, .int 0, .int td, .int sd])), (hu, .inl (cU, 10, .inr (.inr (.inr (.inr fu))))), (u0, .inr (5, [.ref ul, .int 0, .int 0, .int 45, .int 0, .int 0, .int (-1)]))] H1 := hP
    have hD : va_D A [(h0, .inr (6, [.ref hu, .ref hs, .ref hc, .ref hp, .ref hg, .int 0, .int 0, .int 0, .int td, .int sd])), (hu, .inl (cU, 10, .inr (.inr (.inr (.inr fu))))), (u0, .inr (5, [.ref ul, .int 0, .int 0, .int 45, .int 0, .int 0, .int (-1)]))] := hD
    have hK : va_K D vwCl [(cU, .object RX3)] s := hK
    clear hS1
    refine lv_aload_n hx hb dX4_addUnit_7 rfl (lv_at hl 0 rfl) ?_
    refine va_get (D := D) (ci := 6) (v := .int 0) (C := RX4) (T := TX4) (N := 10) hx hb hts zin_X4 hown hK hP 0 rfl rfl 6 (by decide) (hts _ zw_292) (fun _ h9 => h9) rfl dX4_addUnit_8 ?_
    refine lv_if_le (tgt := 24) hx hb dX4_addUnit_11 (by decide) (fun c_2 => ?_) (fun c_2 => absurd (by decide) c_2)
    refine lv_aload_n hx hb dX4_addUnit_24 rfl (lv_at hl 0 rfl) ?_
    refine va_get (D := D) (ci := 6) (v := .int 0) (C := RX4) (T := TX4) (N := 10) hx hb hts zin_X4 hown hK hP 0 rfl rfl 5 (by decide) (hts _ zw_291) (fun _ h9 => h9) rfl dX4_addUnit_25 ?_
    refine lv_bipush (v := 10) hx hb dX4_addUnit_28 (by decide) ?_
    refine lv_icmp_lt (tgt := 43) hx hb dX4_addUnit_30 (by decide) (fun c_3 => ?_) (fun c_3 => absurd (by decide) c_3)
    refine lv_aload_n hx hb dX4_addUnit_43 rfl (lv_at hl 0 rfl) ?_
    refine va_get (D := D) (ci := 6) (v := .ref hu) (C := RX4) (T := TX4) (N := 10) hx hb hts zin_X4 hown hK hP 0 rfl rfl 0 (by decide) (hts _ zw_286) (fun _ h9 => h9) rfl dX4_addUnit_44 ?_
    refine lv_aload_n hx hb dX4_addUnit_47 rfl (lv_at hl 0 rfl) ?_
    refine va_get (D := D) (ci := 6) (v := .int 0) (C := RX4) (T := TX4) (N := 10) hx hb hts zin_X4 hown hK hP 0 rfl rfl 5 (by decide) (hts _ zw_291) (fun _ h9 => h9) rfl dX4_addUnit_48 ?_
    refine va_aldq hx hb hK hP 1 0 rfl rfl (i := 0) (by unfold vp_in; decide) dX4_addUnit_51 ?_
    rw [show fu (0 : Int32).toNatClampNeg = some u0 from hfu]
    refine lv_iload_n hx hb dX4_addUnit_52 rfl (lv_at hl 1 rfl) ?_
    refine va_putN (D := D) (ci := 5) (v := .int a0) (ty := .int) (C := RX3) (T := TX3) (N := 7) hx hb hts zin_X3 tyX3 tyX3_ok nmX3 hown hK hP hD hS 2 rfl rfl 1 (by decide) (hts _ zw_179) (fun _ h9 => h9) rfl (by decide +kernel) rfl rfl (Nat.le_of_ble_eq_true rfl) dX4_addUnit_53 (fun H locs hP hD hS => ?_)
    have hP : va_P D vwCl [(h0, .inr (6, [.ref hu, .ref hs, .ref hc, .ref hp, .ref hg, .int 0, .int 0, .int 0, .int td, .int sd])), (hu, .inl (cU, 10, .inr (.inr (.inr (.inr fu))))), (u0, .inr (5, [.ref ul, .int a0, .int 0, .int 45, .int 0, .int 0, .int (-1)]))] H := hP
    have hD : va_D A [(h0, .inr (6, [.ref hu, .ref hs, .ref hc, .ref hp, .ref hg, .int 0, .int 0, .int 0, .int td, .int sd])), (hu, .inl (cU, 10, .inr (.inr (.inr (.inr fu))))), (u0, .inr (5, [.ref ul, .int a0, .int 0, .int 45, .int 0, .int 0, .int (-1)]))] := hD
    refine lv_aload_n hx hb dX4_addUnit_56 rfl (lv_at hl 0 rfl) ?_
    refine lv_dup hx hb dX4_addUnit_57 rfl ?_
    refine va_get (D := D) (ci := 6) (v := .int 0) (C := RX4) (T := TX4) (N := 10) hx hb hts zin_X4 hown hK hP 0 rfl rfl 5 (by decide) (hts _ zw_291) (fun _ h9 => h9) rfl dX4_addUnit_58 ?_
    refine lv_iconst (v := 1) hx hb dX4_addUnit_61 (by decide) ?_
    refine lv_iadd hx hb dX4_addUnit_62 ?_
    refine lv_topi (fun x_4 ex_4 => ?_)
    obtain rfl : x_4 = 1 := ex_4.trans (by first | rfl | decide | simp)
    refine va_put (D := D) (ci := 6) (v := .int 1) (ty := .int) (C := RX4) (T := TX4) (N := 10) hx hb hts zin_X4 tyX4 tyX4_ok nmX4 hown hK hP hD hS 0 rfl rfl 5 (by decide) (hts _ zw_291) (fun _ h9 => h9) rfl (by decide +kernel) rfl rfl (Nat.le_of_ble_eq_true rfl) dX4_addUnit_63 (fun H locs hP hD hS => ?_)
    have hP : va_P D vwCl [(h0, .inr (6, [.ref hu, .ref hs, .ref hc, .ref hp, .ref hg, .int 1, .int 0, .int 0, .int td, .int sd])), (hu, .inl (cU, 10, .inr (.inr (.inr (.inr fu))))), (u0, .inr (5, [.ref ul, .int a0, .int 0, .int 45, .int 0, .int 0, .int (-1)]))] H := hP
    have hD : va_D A [(h0, .inr (6, [.ref hu, .ref hs, .ref hc, .ref hp, .ref hg, .int 1, .int 0, .int 0, .int td, .int sd])), (hu, .inl (cU, 10, .inr (.inr (.inr (.inr fu))))), (u0, .inr (5, [.ref ul, .int a0, .int 0, .int 45, .int 0, .int 0, .int (-1)]))] := hD
    refine lv_aload_n hx hb dX4_addUnit_66 rfl (lv_at hl 0 rfl) ?_
    refine va_get (D := D) (ci := 6) (v := .int 1) (C := RX4) (T := TX4) (N := 10) hx hb hts zin_X4 hown hK hP 0 rfl rfl 5 (by decide) (hts _ zw_291) (fun _ h9 => h9) rfl dX4_addUnit_67 ?_
    refine lv_iconst (v := 1) hx hb dX4_addUnit_70 (by decide) ?_
    refine lv_isub hx hb dX4_addUnit_71 ?_
    refine lv_topi (fun x_5 ex_5 => ?_)
    obtain rfl : x_5 = 0 := ex_5.trans (by first | rfl | decide | simp)
    exact vx_ret (W.iret (v := 0) hx hb hr (fun t ht hW => ⟨⟨0, (), rfl, ⟨hw_1, rfl⟩, z_end hP hK hD [] rfl rfl [] rfl ht hW.alike⟩, hS.F ht⟩) hS.2.2 dX4_addUnit_72)
theorem dX4_addCrew_0 : decode cX4_addCrew 0 = .ok (.iload_n 1, 1) := by decide +kernel
theorem dX4_addCrew_1 : decode cX4_addCrew 1 = .ok (.bipush 100, 2) := by decide +kernel
theorem dX4_addCrew_3 : decode cX4_addCrew 3 = .ok (.if_icmp .eq 26, 3) := by decide +kernel
theorem dX4_addCrew_29 : decode cX4_addCrew 29 = .ok (.aload_n 0, 1) := by decide +kernel
theorem dX4_addCrew_30 : decode cX4_addCrew 30 = .ok (.getfield 45, 3) := by decide +kernel
theorem dX4_addCrew_33 : decode cX4_addCrew 33 = .ok (.iconst 4, 1) := by decide +kernel
theorem dX4_addCrew_34 : decode cX4_addCrew 34 = .ok (.if_icmp .lt 14, 3) := by decide +kernel
theorem dX4_addCrew_48 : decode cX4_addCrew 48 = .ok (.aload_n 0, 1) := by decide +kernel
theorem dX4_addCrew_49 : decode cX4_addCrew 49 = .ok (.getfield 23, 3) := by decide +kernel
theorem dX4_addCrew_52 : decode cX4_addCrew 52 = .ok (.aload_n 0, 1) := by decide +kernel
theorem dX4_addCrew_53 : decode cX4_addCrew 53 = .ok (.getfield 45, 3) := by decide +kernel
theorem dX4_addCrew_56 : decode cX4_addCrew 56 = .ok (.aaload, 1) := by decide +kernel
theorem dX4_addCrew_57 : decode cX4_addCrew 57 = .ok (.iload_n 1, 1) := by decide +kernel
theorem dX4_addCrew_58 : decode cX4_addCrew 58 = .ok (.putfield 261, 3) := by decide +kernel
theorem zw_278 : Cond.fieldLinkNest RX4 261 "TwofrontArcade$Crew" "trade" "C" "TwofrontArcade" ∈ z_Ts := z_m 278 (by decide +kernel) (by decide +kernel)
theorem dX4_addCrew_61 : decode cX4_addCrew 61 = .ok (.aload_n 0, 1) := by decide +kernel
theorem dX4_addCrew_62 : decode cX4_addCrew 62 = .ok (.dup, 1) := by decide +kernel
theorem dX4_addCrew_63 : decode cX4_addCrew 63 = .ok (.getfield 45, 3) := by decide +kernel
theorem dX4_addCrew_66 : decode cX4_addCrew 66 = .ok (.iconst 1, 1) := by decide +kernel
theorem dX4_addCrew_67 : decode cX4_addCrew 67 = .ok (.iadd, 1) := by decide +kernel
theorem dX4_addCrew_68 : decode cX4_addCrew 68 = .ok (.putfield 45, 3) := by decide +kernel
theorem dX4_addCrew_71 : decode cX4_addCrew 71 = .ok (.aload_n 0, 1) := by decide +kernel
theorem dX4_addCrew_72 : decode cX4_addCrew 72 = .ok (.getfield 45, 3) := by decide +kernel
theorem dX4_addCrew_75 : decode cX4_addCrew 75 = .ok (.iconst 1, 1) := by decide +kernel
theorem dX4_addCrew_76 : decode cX4_addCrew 76 = .ok (.isub, 1) := by decide +kernel
theorem dX4_addCrew_77 : decode cX4_addCrew 77 = .ok (.ireturn, 1) := by decide +kernel
theorem dX4_addCrew_6 : decode cX4_addCrew 6 = .ok (.iload_n 1, 1) := by decide +kernel
theorem dX4_addCrew_7 : decode cX4_addCrew 7 = .ok (.bipush 110, 2) := by decide +kernel
theorem dX4_addCrew_9 : decode cX4_addCrew 9 = .ok (.if_icmp .eq 20, 3) := by decide +kernel
theorem dX4_addCrew_12 : decode cX4_addCrew 12 = .ok (.iload_n 1, 1) := by decide +kernel
theorem dX4_addCrew_13 : decode cX4_addCrew 13 = .ok (.bipush 104, 2) := by decide +kernel
theorem dX4_addCrew_15 : decode cX4_addCrew 15 = .ok (.if_icmp .eq 14, 3) := by decide +kernel
theorem zw_884 : Cond.stringRef RX4 257 "there is no such trade" ∈ z_Ts := z_m 884 (by decide +kernel) (by decide +kernel)
theorem dX4_addCrew_18 : decode cX4_addCrew 18 = .ok (.new 80, 3) := by decide +kernel
theorem dX4_addCrew_21 : decode cX4_addCrew 21 = .ok (.dup, 1) := by decide +kernel
theorem dX4_addCrew_22 : decode cX4_addCrew 22 = .ok (.ldc_w 257, 3) := by decide +kernel
theorem dX4_addCrew_25 : decode cX4_addCrew 25 = .ok (.invokespecial 84, 3) := by decide +kernel
theorem dX4_addCrew_28 : decode cX4_addCrew 28 = .ok (.athrow, 1) := by decide +kernel
set_option maxHeartbeats 4000000 in
set_option maxRecDepth 100000 in
theorem k_X4_addCrew (l : Launch) (hst : l.stackTraces = false) (D : va_G) (h0 : Nat) (hu : Nat) (hs : Nat) (hc : Nat) (hp : Nat) (hg : Nat) (td : Int32) (sd : Int32) (cC : ClassId) (fc : Nat → Option Nat) (w0 : Nat) (a0 : Int32) (sz : Nat) (hfc : fc 0 = some w0) (hna : narrow .char (.int a0) = .int a0) (hfa : fits .char (.int a0) = true) : vx_Met l yX4_addCrew [Cond.code yX4_addCrew cX4_addCrew 2 (some .int)] ({ frames := 6, cells := 1, slots := 6, locals := 100 }) (z_Pc D [.ref h0, .int a0] [(h0, .inr (6, [.ref hu, .ref hs, .ref hc, .ref hp, .ref hg, .int 0, .int 0, .int 0, .int td, .int sd])), (hc, .inl (cC, 4, .inr (.inr (.inr (.inr fc))))), (w0, .inr (2, [.int 100, .int (-1)]))] [(cC, .object RX0)] sz) (va_Qi (fun (r : Int32) (_ : Unit) => (a0 = 100 ∨ a0 = 110 ∨ a0 = 104) ∧ r = 0) (fun _ t => z_W D [] [] (va_A [(h0, .inr (6, [.ref hu, .ref hs, .ref hc, .ref hp, .ref hg, .int 0, .int 0, .int 0, .int td, .int sd])), (hc, .inl (cC, 4, .inr (.inr (.inr (.inr fc))))), (w0, .inr (2, [.int 100, .int (-1)]))] sz) t) (va_A [(h0, .inr (6, [.ref hu, .ref hs, .ref hc, .ref hp, .ref hg, .int 0, .int 0, .int 0, .int td, .int sd])), (hc, .inl (cC, 4, .inr (.inr (.inr (.inr fc))))), (w0, .inr (2, [.int 100, .int (-1)]))] sz)) (z_T (¬ (a0 = 100 ∨ a0 = 110 ∨ a0 = 104)) "java/lang/IllegalArgumentException" D [(h0, .inr (6, [.ref hu, .ref hs, .ref hc, .ref hp, .ref hg, .int 0, .int 0, .int 0, .int td, .int sd])), (hc, .inl (cC, 4, .inr (.inr (.inr (.inr fc))))), (w0, .inr (2, [.int 100, .int (-1)]))] [(cC, .object RX0)] sz) 1 6 (va_A [(h0, .inr (6, [.ref hu, .ref hs, .ref hc, .ref hp, .ref hg, .int 0, .int 0, .int 0, .int td, .int sd])), (hc, .inl (cC, 4, .inr (.inr (.inr (.inr fc))))), (w0, .inr (2, [.int 100, .int (-1)]))] sz) := by
  refine vx_ofW (cc := cX4_addCrew) (maxL := 2) (ret := (some .int)) (by decide +kernel) rfl ?_
  intro p e s m args below meth c s₁ B hml hnt hv
  obtain ⟨rfl, hsz, hP, hK, hD0, hE, hX0⟩ := hv
  have hx := B.exec
  have hb := B.bytes
  have hr := B.returns
  have hts := z_E.ts (args := [.ref h0, .int a0].toArray) hE
  have hown : s.vm.findClass RX4 = some m.cls := findClass_of_methodNamed B.named
  have hlocks := B.notSynchronized
  subst hsz
  have hD := hD0.self (sz := s.heap.size)
  generalize hAe : va_A [(h0, .inr (6, [.ref hu, .ref hs, .ref hc, .ref hp, .ref hg, .int 0, .int 0, .int 0, .int td, .int sd])), (hc, .inl (cC, 4, .inr (.inr (.inr (.inr fc))))), (w0, .inr (2, [.int 100, .int (-1)]))] s.heap.size = A at hD hX0 ⊢
  have hX : z_X D A s s.heap := hX0
  have hA : ∀ q : Nat, s.heap.size ≤ q → A q := fun q h => by rw [← hAe]; exact Or.inr h
  have hS : va_S A s.heap s.heap [] := va_S.rf
  have hP : va_P D vwCl [(h0, .inr (6, [.ref hu, .ref hs, .ref hc, .ref hp, .ref hg, .int 0, .int 0, .int 0, .int td, .int sd])), (hc, .inl (cC, 4, .inr (.inr (.inr (.inr fc))))), (w0, .inr (2, [.int 100, .int (-1)]))] s.heap := hP
  have hl := lv_entry ([.ref h0, .int a0]) (n := 2) (Nat.le_of_ble_eq_true rfl)
  rw [lg_entry_eq]
  generalize (lg_sl ([.ref h0, .int a0]) ++ List.replicate (2 - (lg_sl ([.ref h0, .int a0])).length) Slot.unset).toArray = ls at hl ⊢
  have hl : lv_has ls 2 [(0, .ref h0), (1, .int a0)] := hl
  skip
  refine lv_iload_n hx hb dX4_addCrew_0 rfl (lv_at hl 1 rfl) ?_
  refine lv_bipush (v := 100) hx hb dX4_addCrew_1 (by decide) ?_
  refine lv_icmp_eq (tgt := 29) hx hb dX4_addCrew_3 (by decide) (fun c_1 => ?_) (fun c_1 => ?_)
  · refine lv_aload_n hx hb dX4_addCrew_29 rfl (lv_at hl 0 rfl) ?_
    refine va_get (D := D) (ci := 6) (v := .int 0) (C := RX4) (T := TX4) (N := 10) hx hb hts zin_X4 hown hK hP 0 rfl rfl 7 (by decide) (hts _ zw_293) (fun _ h9 => h9) rfl dX4_addCrew_30 ?_
    refine lv_iconst (v := 4) hx hb dX4_addCrew_33 (by decide) ?_
    refine lv_icmp_lt (tgt := 48) hx hb dX4_addCrew_34 (by decide) (fun c_2 => ?_) (fun c_2 => absurd (by decide) c_2)
    refine lv_aload_n hx hb dX4_addCrew_48 rfl (lv_at hl 0 rfl) ?_
    refine va_get (D := D) (ci := 6) (v := .ref hc) (C := RX4) (T := TX4) (N := 10) hx hb hts zin_X4 hown hK hP 0 rfl rfl 2 (by decide) (hts _ zw_288) (fun _ h9 => h9) rfl dX4_addCrew_49 ?_
    refine lv_aload_n hx hb dX4_addCrew_52 rfl (lv_at hl 0 rfl) ?_
    refine va_get (D := D) (ci := 6) (v := .int 0) (C := RX4) (T := TX4) (N := 10) hx hb hts zin_X4 hown hK hP 0 rfl rfl 7 (by decide) (hts _ zw_293) (fun _ h9 => h9) rfl dX4_addCrew_53 ?_
    refine va_aldq hx hb hK hP 1 0 rfl rfl (i := 0) (by unfold vp_in; decide) dX4_addCrew_56 ?_
    rw [show fc (0 : Int32).toNatClampNeg = some w0 from hfc]
    refine lv_iload_n hx hb dX4_addCrew_57 rfl (lv_at hl 1 rfl) ?_
    refine va_putN (D := D) (ci := 2) (v := .int a0) (ty := .char) (C := RX0) (T := TX0) (N := 2) hx hb hts zin_X0 tyX0 tyX0_ok nmX0 hown hK hP hD hS 2 rfl rfl 0 (by decide) (hts _ zw_278) (fun _ h9 => h9) rfl (by decide +kernel) (by first | rfl | decide | assumption) (by first | rfl | decide | assumption) (Nat.le_of_ble_eq_true rfl) dX4_addCrew_58 (fun H locs hP hD hS => ?_)
    have hP : va_P D vwCl [(h0, .inr (6, [.ref hu, .ref hs, .ref hc, .ref hp, .ref hg, .int 0, .int 0, .int 0, .int td, .int sd])), (hc, .inl (cC, 4, .inr (.inr (.inr (.inr fc))))), (w0, .inr (2, [.int a0, .int (-1)]))] H := hP
    have hD : va_D A [(h0, .inr (6, [.ref hu, .ref hs, .ref hc, .ref hp, .ref hg, .int 0, .int 0, .int 0, .int td, .int sd])), (hc, .inl (cC, 4, .inr (.inr (.inr (.inr fc))))), (w0, .inr (2, [.int a0, .int (-1)]))] := hD
    refine lv_aload_n hx hb dX4_addCrew_61 rfl (lv_at hl 0 rfl) ?_
    refine lv_dup hx hb dX4_addCrew_62 rfl ?_
    refine va_get (D := D) (ci := 6) (v := .int 0) (C := RX4) (T := TX4) (N := 10) hx hb hts zin_X4 hown hK hP 0 rfl rfl 7 (by decide) (hts _ zw_293) (fun _ h9 => h9) rfl dX4_addCrew_63 ?_
    refine lv_iconst (v := 1) hx hb dX4_addCrew_66 (by decide) ?_
    refine lv_iadd hx hb dX4_addCrew_67 ?_
    refine lv_topi (fun x_3 ex_3 => ?_)
    obtain rfl : x_3 = 1 := ex_3.trans (by first | rfl | decide | simp)
    refine va_put (D := D) (ci := 6) (v := .int 1) (ty := .int) (C := RX4) (T := TX4) (N := 10) hx hb hts zin_X4 tyX4 tyX4_ok nmX4 hown hK hP hD hS 0 rfl rfl 7 (by decide) (hts _ zw_293) (fun _ h9 => h9) rfl (by decide +kernel) rfl rfl (Nat.le_of_ble_eq_true rfl) dX4_addCrew_68 (fun H locs hP hD hS => ?_)
    have hP : va_P D vwCl [(h0, .inr (6, [.ref hu, .ref hs, .ref hc, .ref hp, .ref hg, .int 0, .int 0, .int 1, .int td, .int sd])), (hc, .inl (cC, 4, .inr (.inr (.inr (.inr fc))))), (w0, .inr (2, [.int a0, .int (-1)]))] H := hP
    have hD : va_D A [(h0, .inr (6, [.ref hu, .ref hs, .ref hc, .ref hp, .ref hg, .int 0, .int 0, .int 1, .int td, .int sd])), (hc, .inl (cC, 4, .inr (.inr (.inr (.inr fc))))), (w0, .inr (2, [.int a0, .int (-1)]))] := hD
    refine lv_aload_n hx hb dX4_addCrew_71 rfl (lv_at hl 0 rfl) ?_
    refine va_get (D := D) (ci := 6) (v := .int 1) (C := RX4) (T := TX4) (N := 10) hx hb hts zin_X4 hown hK hP 0 rfl rfl 7 (by decide) (hts _ zw_293) (fun _ h9 => h9) rfl dX4_addCrew_72 ?_
    refine lv_iconst (v := 1) hx hb dX4_addCrew_75 (by decide) ?_
    refine lv_isub hx hb dX4_addCrew_76 ?_
    refine lv_topi (fun x_4 ex_4 => ?_)
    obtain rfl : x_4 = 0 := ex_4.trans (by first | rfl | decide | simp)
    refine W.widen (k := 1) (n := 6) (Nat.le_of_ble_eq_true rfl) (Nat.le_of_ble_eq_true rfl) ?_
    exact vx_ret (W.iret (v := 0) hx hb hr (fun t ht hW => ⟨⟨0, (), rfl, ⟨Or.inl c_1, rfl⟩, z_end hP hK hD [] rfl rfl [] rfl ht hW.alike⟩, hS.F ht⟩) hS.2.2 dX4_addCrew_77)
  · refine lv_iload_n hx hb dX4_addCrew_6 rfl (lv_at hl 1 rfl) ?_
    refine lv_bipush (v := 110) hx hb dX4_addCrew_7 (by decide) ?_
    refine lv_icmp_eq (tgt := 29) hx hb dX4_addCrew_9 (by decide) (fun c_2 => ?_) (fun c_2 => ?_)
    · refine lv_aload_n hx hb dX4_addCrew_29 rfl (lv_at hl 0 rfl) ?_
      refine va_get (D := D) (ci := 6) (v := .int 0) (C := RX4) (T := TX4) (N := 10) hx hb hts zin_X4 hown hK hP 0 rfl rfl 7 (by decide) (hts _ zw_293) (fun _ h9 => h9) rfl dX4_addCrew_30 ?_
      refine lv_iconst (v := 4) hx hb dX4_addCrew_33 (by decide) ?_
      refine lv_icmp_lt (tgt := 48) hx hb dX4_addCrew_34 (by decide) (fun c_3 => ?_) (fun c_3 => absurd (by decide) c_3)
      refine lv_aload_n hx hb dX4_addCrew_48 rfl (lv_at hl 0 rfl) ?_
      refine va_get (D := D) (ci := 6) (v := .ref hc) (C := RX4) (T := TX4) (N := 10) hx hb hts zin_X4 hown hK hP 0 rfl rfl 2 (by decide) (hts _ zw_288) (fun _ h9 => h9) rfl dX4_addCrew_49 ?_
      refine lv_aload_n hx hb dX4_addCrew_52 rfl (lv_at hl 0 rfl) ?_
      refine va_get (D := D) (ci := 6) (v := .int 0) (C := RX4) (T := TX4) (N := 10) hx hb hts zin_X4 hown hK hP 0 rfl rfl 7 (by decide) (hts _ zw_293) (fun _ h9 => h9) rfl dX4_addCrew_53 ?_
      refine va_aldq hx hb hK hP 1 0 rfl rfl (i := 0) (by unfold vp_in; decide) dX4_addCrew_56 ?_
      rw [show fc (0 : Int32).toNatClampNeg = some w0 from hfc]
      refine lv_iload_n hx hb dX4_addCrew_57 rfl (lv_at hl 1 rfl) ?_
      refine va_putN (D := D) (ci := 2) (v := .int a0) (ty := .char) (C := RX0) (T := TX0) (N := 2) hx hb hts zin_X0 tyX0 tyX0_ok nmX0 hown hK hP hD hS 2 rfl rfl 0 (by decide) (hts _ zw_278) (fun _ h9 => h9) rfl (by decide +kernel) (by first | rfl | decide | assumption) (by first | rfl | decide | assumption) (Nat.le_of_ble_eq_true rfl) dX4_addCrew_58 (fun H locs hP hD hS => ?_)
      have hP : va_P D vwCl [(h0, .inr (6, [.ref hu, .ref hs, .ref hc, .ref hp, .ref hg, .int 0, .int 0, .int 0, .int td, .int sd])), (hc, .inl (cC, 4, .inr (.inr (.inr (.inr fc))))), (w0, .inr (2, [.int a0, .int (-1)]))] H := hP
      have hD : va_D A [(h0, .inr (6, [.ref hu, .ref hs, .ref hc, .ref hp, .ref hg, .int 0, .int 0, .int 0, .int td, .int sd])), (hc, .inl (cC, 4, .inr (.inr (.inr (.inr fc))))), (w0, .inr (2, [.int a0, .int (-1)]))] := hD
      refine lv_aload_n hx hb dX4_addCrew_61 rfl (lv_at hl 0 rfl) ?_
      refine lv_dup hx hb dX4_addCrew_62 rfl ?_
      refine va_get (D := D) (ci := 6) (v := .int 0) (C := RX4) (T := TX4) (N := 10) hx hb hts zin_X4 hown hK hP 0 rfl rfl 7 (by decide) (hts _ zw_293) (fun _ h9 => h9) rfl dX4_addCrew_63 ?_
      refine lv_iconst (v := 1) hx hb dX4_addCrew_66 (by decide) ?_
      refine lv_iadd hx hb dX4_addCrew_67 ?_
      refine lv_topi (fun x_4 ex_4 => ?_)
      obtain rfl : x_4 = 1 := ex_4.trans (by first | rfl | decide | simp)
      refine va_put (D := D) (ci := 6) (v := .int 1) (ty := .int) (C := RX4) (T := TX4) (N := 10) hx hb hts zin_X4 tyX4 tyX4_ok nmX4 hown hK hP hD hS 0 rfl rfl 7 (by decide) (hts _ zw_293) (fun _ h9 => h9) rfl (by decide +kernel) rfl rfl (Nat.le_of_ble_eq_true rfl) dX4_addCrew_68 (fun H locs hP hD hS => ?_)
      have hP : va_P D vwCl [(h0, .inr (6, [.ref hu, .ref hs, .ref hc, .ref hp, .ref hg, .int 0, .int 0, .int 1, .int td, .int sd])), (hc, .inl (cC, 4, .inr (.inr (.inr (.inr fc))))), (w0, .inr (2, [.int a0, .int (-1)]))] H := hP
      have hD : va_D A [(h0, .inr (6, [.ref hu, .ref hs, .ref hc, .ref hp, .ref hg, .int 0, .int 0, .int 1, .int td, .int sd])), (hc, .inl (cC, 4, .inr (.inr (.inr (.inr fc))))), (w0, .inr (2, [.int a0, .int (-1)]))] := hD
      refine lv_aload_n hx hb dX4_addCrew_71 rfl (lv_at hl 0 rfl) ?_
      refine va_get (D := D) (ci := 6) (v := .int 1) (C := RX4) (T := TX4) (N := 10) hx hb hts zin_X4 hown hK hP 0 rfl rfl 7 (by decide) (hts _ zw_293) (fun _ h9 => h9) rfl dX4_addCrew_72 ?_
      refine lv_iconst (v := 1) hx hb dX4_addCrew_75 (by decide) ?_
      refine lv_isub hx hb dX4_addCrew_76 ?_
      refine lv_topi (fun x_5 ex_5 => ?_)
      obtain rfl : x_5 = 0 := ex_5.trans (by first | rfl | decide | simp)
      refine W.widen (k := 1) (n := 6) (Nat.le_of_ble_eq_true rfl) (Nat.le_of_ble_eq_true rfl) ?_
      exact vx_ret (W.iret (v := 0) hx hb hr (fun t ht hW => ⟨⟨0, (), rfl, ⟨Or.inr (Or.inl c_2), rfl⟩, z_end hP hK hD [] rfl rfl [] rfl ht hW.alike⟩, hS.F ht⟩) hS.2.2 dX4_addCrew_77)
    · refine lv_iload_n hx hb dX4_addCrew_12 rfl (lv_at hl 1 rfl) ?_
      refine lv_bipush (v := 104) hx hb dX4_addCrew_13 (by decide) ?_
      refine lv_icmp_eq (tgt := 29) hx hb dX4_addCrew_15 (by decide) (fun c_3 => ?_) (fun c_3 => ?_)
      · refine lv_aload_n hx hb dX4_addCrew_29 rfl (lv_at hl 0 rfl) ?_
        refine va_get (D := D) (ci := 6) (v := .int 0) (C := RX4) (T := TX4) (N := 10) hx hb hts zin_X4 hown hK hP 0 rfl rfl 7 (by decide) (hts _ zw_293) (fun _ h9 => h9) rfl dX4_addCrew_30 ?_
        refine lv_iconst (v := 4) hx hb dX4_addCrew_33 (by decide) ?_
        refine lv_icmp_lt (tgt := 48) hx hb dX4_addCrew_34 (by decide) (fun c_4 => ?_) (fun c_4 => absurd (by decide) c_4)
        refine lv_aload_n hx hb dX4_addCrew_48 rfl (lv_at hl 0 rfl) ?_
        refine va_get (D := D) (ci := 6) (v := .ref hc) (C := RX4) (T := TX4) (N := 10) hx hb hts zin_X4 hown hK hP 0 rfl rfl 2 (by decide) (hts _ zw_288) (fun _ h9 => h9) rfl dX4_addCrew_49 ?_
        refine lv_aload_n hx hb dX4_addCrew_52 rfl (lv_at hl 0 rfl) ?_
        refine va_get (D := D) (ci := 6) (v := .int 0) (C := RX4) (T := TX4) (N := 10) hx hb hts zin_X4 hown hK hP 0 rfl rfl 7 (by decide) (hts _ zw_293) (fun _ h9 => h9) rfl dX4_addCrew_53 ?_
        refine va_aldq hx hb hK hP 1 0 rfl rfl (i := 0) (by unfold vp_in; decide) dX4_addCrew_56 ?_
        rw [show fc (0 : Int32).toNatClampNeg = some w0 from hfc]
        refine lv_iload_n hx hb dX4_addCrew_57 rfl (lv_at hl 1 rfl) ?_
        refine va_putN (D := D) (ci := 2) (v := .int a0) (ty := .char) (C := RX0) (T := TX0) (N := 2) hx hb hts zin_X0 tyX0 tyX0_ok nmX0 hown hK hP hD hS 2 rfl rfl 0 (by decide) (hts _ zw_278) (fun _ h9 => h9) rfl (by decide +kernel) (by first | rfl | decide | assumption) (by first | rfl | decide | assumption) (Nat.le_of_ble_eq_true rfl) dX4_addCrew_58 (fun H locs hP hD hS => ?_)
        have hP : va_P D vwCl [(h0, .inr (6, [.ref hu, .ref hs, .ref hc, .ref hp, .ref hg, .int 0, .int 0, .int 0, .int td, .int sd])), (hc, .inl (cC, 4, .inr (.inr (.inr (.inr fc))))), (w0, .inr (2, [.int a0, .int (-1)]))] H := hP
        have hD : va_D A [(h0, .inr (6, [.ref hu, .ref hs, .ref hc, .ref hp, .ref hg, .int 0, .int 0, .int 0, .int td, .int sd])), (hc, .inl (cC, 4, .inr (.inr (.inr (.inr fc))))), (w0, .inr (2, [.int a0, .int (-1)]))] := hD
        refine lv_aload_n hx hb dX4_addCrew_61 rfl (lv_at hl 0 rfl) ?_
        refine lv_dup hx hb dX4_addCrew_62 rfl ?_
        refine va_get (D := D) (ci := 6) (v := .int 0) (C := RX4) (T := TX4) (N := 10) hx hb hts zin_X4 hown hK hP 0 rfl rfl 7 (by decide) (hts _ zw_293) (fun _ h9 => h9) rfl dX4_addCrew_63 ?_
        refine lv_iconst (v := 1) hx hb dX4_addCrew_66 (by decide) ?_
        refine lv_iadd hx hb dX4_addCrew_67 ?_
        refine lv_topi (fun x_5 ex_5 => ?_)
        obtain rfl : x_5 = 1 := ex_5.trans (by first | rfl | decide | simp)
        refine va_put (D := D) (ci := 6) (v := .int 1) (ty := .int) (C := RX4) (T := TX4) (N := 10) hx hb hts zin_X4 tyX4 tyX4_ok nmX4 hown hK hP hD hS 0 rfl rfl 7 (by decide) (hts _ zw_293) (fun _ h9 => h9) rfl (by decide +kernel) rfl rfl (Nat.le_of_ble_eq_true rfl) dX4_addCrew_68 (fun H locs hP hD hS => ?_)
        have hP : va_P D vwCl [(h0, .inr (6, [.ref hu, .ref hs, .ref hc, .ref hp, .ref hg, .int 0, .int 0, .int 1, .int td, .int sd])), (hc, .inl (cC, 4, .inr (.inr (.inr (.inr fc))))), (w0, .inr (2, [.int a0, .int (-1)]))] H := hP
        have hD : va_D A [(h0, .inr (6, [.ref hu, .ref hs, .ref hc, .ref hp, .ref hg, .int 0, .int 0, .int 1, .int td, .int sd])), (hc, .inl (cC, 4, .inr (.inr (.inr (.inr fc))))), (w0, .inr (2, [.int a0, .int (-1)]))] := hD
        refine lv_aload_n hx hb dX4_addCrew_71 rfl (lv_at hl 0 rfl) ?_
        refine va_get (D := D) (ci := 6) (v := .int 1) (C := RX4) (T := TX4) (N := 10) hx hb hts zin_X4 hown hK hP 0 rfl rfl 7 (by decide) (hts _ zw_293) (fun _ h9 => h9) rfl dX4_addCrew_72 ?_
        refine lv_iconst (v := 1) hx hb dX4_addCrew_75 (by decide) ?_
        refine lv_isub hx hb dX4_addCrew_76 ?_
        refine lv_topi (fun x_6 ex_6 => ?_)
        obtain rfl : x_6 = 0 := ex_6.trans (by first | rfl | decide | simp)
        refine W.widen (k := 1) (n := 6) (Nat.le_of_ble_eq_true rfl) (Nat.le_of_ble_eq_true rfl) ?_
        exact vx_ret (W.iret (v := 0) hx hb hr (fun t ht hW => ⟨⟨0, (), rfl, ⟨Or.inr (Or.inr c_3), rfl⟩, z_end hP hK hD [] rfl rfl [] rfl ht hW.alike⟩, hS.F ht⟩) hS.2.2 dX4_addCrew_77)
      · obtain ⟨sa_4, hsa_4⟩ := z_str hE zw_884
        exact vx_throwSW (A := A) (names := ["java/lang/RuntimeException", "java/lang/Exception"]) hx hb hst hown (by decide +kernel) (by decide +kernel) (hts _ zw_415) (hts _ zw_103) hsa_4 (z_hat hE zat_X4_84) zgd_X4_84 hX.1.1 hX.1.2 hS (hl.1.trans hml.symm) dX4_addCrew_18 dX4_addCrew_21 dX4_addCrew_22 dX4_addCrew_25 dX4_addCrew_28 (fun x hx => (hnt x hx).elim) (Nat.le_of_ble_eq_true rfl) (Nat.le_of_ble_eq_true rfl) (Nat.le_of_ble_eq_true rfl) (Nat.le_of_ble_eq_true rfl) hlocks (z_thrown (fun h => h.elim (fun q => c_1 q) (fun h => h.elim (fun q => c_2 q) (fun q => c_3 q))) rfl hAe hP hK hD hS [0, 1, 2] rfl rfl [0] rfl) hS.2.2 (Nat.le_of_ble_eq_true rfl) (Nat.le_of_ble_eq_true rfl)
theorem z_sm32 {a hi lo : Int32} {n m : Nat} (hn : n < 2 ^ 30) (h2 : hi.toInt = (n : Int)) (h1 : lo.toInt = (m : Int)) (h : ¬ a < lo ∧ a ≤ hi) : ∃ k : Nat, m ≤ k ∧ k ≤ n ∧ a = nI k := by
  have h3 := Int32.not_lt.mp h.1
  have h4 := h.2
  rw [Int32.le_iff_toInt_le, h1] at h3
  rw [Int32.le_iff_toInt_le, h2] at h4
  refine ⟨a.toInt.toNat, by omega, by omega, ?_⟩
  apply Int32.toInt_inj.mp
  rw [nI_toInt (by omega)]
  omega
theorem dX4_pass_0 : decode cX4_pass 0 = .ok (.iload_n 1, 1) := by decide +kernel
theorem dX4_pass_1 : decode cX4_pass 1 = .ok (.iconst 1, 1) := by decide +kernel
theorem dX4_pass_2 : decode cX4_pass 2 = .ok (.bipush 30, 2) := by decide +kernel
theorem dX4_pass_4 : decode cX4_pass 4 = .ok (.invokestatic 57, 3) := by decide +kernel
theorem dX4_pass_7 : decode cX4_pass 7 = .ok (.iconst 0, 1) := by decide +kernel
theorem dX4_pass_8 : decode cX4_pass 8 = .ok (.istore_n 2, 1) := by decide +kernel
theorem dX4_pass_9 : decode cX4_pass 9 = .ok (.iload_n 2, 1) := by decide +kernel
theorem dX4_pass_10 : decode cX4_pass 10 = .ok (.aload_n 0, 1) := by decide +kernel
theorem dX4_pass_11 : decode cX4_pass 11 = .ok (.getfield 42, 3) := by decide +kernel
theorem dX4_pass_14 : decode cX4_pass 14 = .ok (.if_icmp .ge 41, 3) := by decide +kernel
theorem dX4_pass_55 : decode cX4_pass 55 = .ok (.aload_n 0, 1) := by decide +kernel
theorem dX4_pass_56 : decode cX4_pass 56 = .ok (.getfield 48, 3) := by decide +kernel
theorem dX4_pass_59 : decode cX4_pass 59 = .ok (.iload_n 1, 1) := by decide +kernel
theorem dX4_pass_60 : decode cX4_pass 60 = .ok (.iadd, 1) := by decide +kernel
theorem dX4_pass_61 : decode cX4_pass 61 = .ok (.sipush 999, 3) := by decide +kernel
theorem dX4_pass_64 : decode cX4_pass 64 = .ok (.if_icmp .le 13, 3) := by decide +kernel
theorem dX4_pass_77 : decode cX4_pass 77 = .ok (.iconst 0, 1) := by decide +kernel
theorem dX4_pass_78 : decode cX4_pass 78 = .ok (.istore_n 2, 1) := by decide +kernel
theorem dX4_pass_79 : decode cX4_pass 79 = .ok (.iload_n 2, 1) := by decide +kernel
theorem dX4_pass_80 : decode cX4_pass 80 = .ok (.iload_n 1, 1) := by decide +kernel
theorem dX4_pass_81 : decode cX4_pass 81 = .ok (.if_icmp .ge 13, 3) := by decide +kernel
theorem dX4_pass_94 : decode cX4_pass 94 = .ok (.aload_n 0, 1) := by decide +kernel
theorem dX4_pass_95 : decode cX4_pass 95 = .ok (.getfield 48, 3) := by decide +kernel
theorem dX4_pass_98 : decode cX4_pass 98 = .ok (.ireturn, 1) := by decide +kernel
theorem dX4_pass_84 : decode cX4_pass 84 = .ok (.aload_n 0, 1) := by decide +kernel
theorem dX4_pass_85 : decode cX4_pass 85 = .ok (.invokevirtual 254, 3) := by decide +kernel
theorem zw_832 : Cond.methodLink RX4 254 yX4_passOneDay ∈ z_Ts := z_m 832 (by decide +kernel) (by decide +kernel)
theorem zw_834 : Cond.instanceMethod yX4_passOneDay ∈ z_Ts := z_m 834 (by decide +kernel) (by decide +kernel)
theorem zw_33 : Cond.selects RX4 yX4_passOneDay yX4_passOneDay ∈ z_Ts := z_m 33 (by decide +kernel) (by decide +kernel)
theorem zw_835 : Cond.code yX4_passOneDay cX4_passOneDay 2 none ∈ z_Ts := z_m 835 (by decide +kernel) (by decide +kernel)
theorem dX4_pass_88 : decode cX4_pass 88 = .ok (.iinc 2 1, 3) := by decide +kernel
theorem dX4_pass_91 : decode cX4_pass 91 = .ok (.goto (-12), 3) := by decide +kernel
set_option maxHeartbeats 4000000 in
set_option maxRecDepth 100000 in
theorem k_X4_pass (l : Launch) (hst : l.stackTraces = false) (D : va_G) (h0 : Nat) (hu : Nat) (hs : Nat) (hc : Nat) (hp : Nat) (hg : Nat) (a0 : Int32) (sz : Nat)  : vx_Met l yX4_pass [Cond.code yX4_pass cX4_pass 3 (some .int)] ({ frames := 7, cells := 1, slots := 6, locals := 130 }) (z_Pc D [.ref h0, .int a0] [(h0, .inr (6, [.ref hu, .ref hs, .ref hc, .ref hp, .ref hg, .int 0, .int 0, .int 0, .int 0, .int 0]))] [] sz) (va_Qi (fun (r : Int32) (_ : Unit) => (¬ a0 < 1 ∧ a0 ≤ 30) ∧ r = a0) (fun _ t => z_W D [] [] (va_A [(h0, .inr (6, [.ref hu, .ref hs, .ref hc, .ref hp, .ref hg, .int 0, .int 0, .int 0, .int 0, .int 0]))] sz) t) (va_A [(h0, .inr (6, [.ref hu, .ref hs, .ref hc, .ref hp, .ref hg, .int 0, .int 0, .int 0, .int 0, .int 0]))] sz)) (z_T ((a0 < 1 ∨ ¬ a0 ≤ 30)) "java/lang/IllegalArgumentException" D [(h0, .inr (6, [.ref hu, .ref hs, .ref hc, .ref hp, .ref hg, .int 0, .int 0, .int 0, .int 0, .int 0]))] [] sz) 1 6 (va_A [(h0, .inr (6, [.ref hu, .ref hs, .ref hc, .ref hp, .ref hg, .int 0, .int 0, .int 0, .int 0, .int 0]))] sz) := by
  refine vx_ofW (cc := cX4_pass) (maxL := 3) (ret := (some .int)) (by decide +kernel) rfl ?_
  intro p e s m args below meth c s₁ B hml hnt hv
  obtain ⟨rfl, hsz, hP, hK, hD0, hE, hX0⟩ := hv
  have hx := B.exec
  have hb := B.bytes
  have hr := B.returns
  have hts := z_E.ts (args := [.ref h0, .int a0].toArray) hE
  have hown : s.vm.findClass RX4 = some m.cls := findClass_of_methodNamed B.named
  have hlocks := B.notSynchronized
  subst hsz
  have hD := hD0.self (sz := s.heap.size)
  generalize hAe : va_A [(h0, .inr (6, [.ref hu, .ref hs, .ref hc, .ref hp, .ref hg, .int 0, .int 0, .int 0, .int 0, .int 0]))] s.heap.size = A at hD hX0 ⊢
  have hX : z_X D A s s.heap := hX0
  have hA : ∀ q : Nat, s.heap.size ≤ q → A q := fun q h => by rw [← hAe]; exact Or.inr h
  have hS : va_S A s.heap s.heap [] := va_S.rf
  have hP : va_P D vwCl [(h0, .inr (6, [.ref hu, .ref hs, .ref hc, .ref hp, .ref hg, .int 0, .int 0, .int 0, .int 0, .int 0]))] s.heap := hP
  have hl := lv_entry ([.ref h0, .int a0]) (n := 3) (Nat.le_of_ble_eq_true rfl)
  rw [lg_entry_eq]
  generalize (lg_sl ([.ref h0, .int a0]) ++ List.replicate (3 - (lg_sl ([.ref h0, .int a0])).length) Slot.unset).toArray = ls at hl ⊢
  have hl : lv_has ls 3 [(0, .ref h0), (1, .int a0)] := hl
  skip
  refine lv_iload_n hx hb dX4_pass_0 rfl (lv_at hl 1 rfl) ?_
  refine lv_iconst (v := 1) hx hb dX4_pass_1 (by decide) ?_
  refine lv_bipush (v := 30) hx hb dX4_pass_2 (by decide) ?_
  obtain ⟨hb_1, hc_1⟩ := z_call (wc := []) (tc := []) ([.int a0, .int 1, .int 30]) hP hK hD hS hA hE hX [] rfl rfl [] rfl
  have hF_1 := va_free (wc := []) hD hS hA [] rfl
  refine vx_callv (vx_runS (As := [.int a0, .int 1, .int 30]) (rest := []) ⟨hx, hb, hml, hown, hts⟩ (c_X4_needRange l hst D a0 1 30 _ ) (⟨z_cB 3 hE zw_412 zw_91 zw_414 rfl rfl rfl (by decide +kernel) ⟨(Nat.le_of_ble_eq_true rfl), (Nat.le_of_ble_eq_true rfl)⟩, hE.ts _ zw_413⟩) ⟨hb_1, hc_1⟩ rfl rfl hl.1 rfl (lv_room (Nat.le_of_ble_eq_true rfl)) dX4_pass_4 ⟨(Nat.le_of_ble_eq_true rfl), (Nat.le_of_ble_eq_true rfl)⟩) hS (fun q _ h => hF_1 q h) hF_1 (fun q _ h => hF_1 q h) (fun E_1 ce_1 q9_1 u_1 t_1 H1 locs ht_1 hvm_1 hw_1 hB_1 hz_1 hk_1 hS1 hce_1 hcv_1 hcl_1 => ?_) (fun u_1 t_1 H1 locs ht_1 hvm_1 hw_1 hB_1 hz_1 hk_1 hS1 => ?_)
  · obtain ⟨rfl, hB_1⟩ := hB_1
    obtain ⟨hP, hK, hD⟩ := z_back (wc := []) (wr := [(h0, .inr (6, [.ref hu, .ref hs, .ref hc, .ref hp, .ref hg, .int 0, .int 0, .int 0, .int 0, .int 0]))]) (w1 := []) (tr := []) hP hK hD [] [0] rfl rfl rfl (by decide) ht_1 hvm_1 hk_1 hF_1 [] rfl hB_1
    have hS := hS1
    have hP : va_P D vwCl [(h0, .inr (6, [.ref hu, .ref hs, .ref hc, .ref hp, .ref hg, .int 0, .int 0, .int 0, .int 0, .int 0]))] H1 := hP
    have hD : va_D A [(h0, .inr (6, [.ref hu, .ref hs, .ref hc, .ref hp, .ref hg, .int 0, .int 0, .int 0, .int 0, .int 0]))] := hD
    have hK : va_K D vwCl [] s := hK
    clear hS1
    exact vx_out (fun x hx => (hnt x hx).elim) hlocks hce_1 hcv_1 hcl_1 (fun t ht hvm => z_through hw_1 rfl hAe hP hK hD hS [0] rfl rfl [] rfl ht hvm) hS.2.2 (Nat.le_of_ble_eq_true rfl) (Nat.le_of_ble_eq_true rfl)
  · obtain ⟨hP, hK, hD⟩ := z_back (wc := []) (wr := [(h0, .inr (6, [.ref hu, .ref hs, .ref hc, .ref hp, .ref hg, .int 0, .int 0, .int 0, .int 0, .int 0]))]) (w1 := []) (tr := []) hP hK hD [] [0] rfl rfl rfl (by decide) ht_1 hvm_1 hk_1 hF_1 [] rfl hB_1
    have hS := hS1
    have hP : va_P D vwCl [(h0, .inr (6, [.ref hu, .ref hs, .ref hc, .ref hp, .ref hg, .int 0, .int 0, .int 0, .int 0, .int 0]))] H1 := hP
    have hD : va_D A [(h0, .inr (6, [.ref hu, .ref hs, .ref hc, .ref hp, .ref hg, .int 0, .int 0, .int 0, .int 0, .int 0]))] := hD
    have hK : va_K D vwCl [] s := hK
    clear hS1
    have gk := hw_1
    obtain ⟨N, hN1, hN2, hN3⟩ := z_sm32 (n := 30) (m := 1) (by decide) (by decide) (by decide) gk
    subst hN3
    refine lv_iconst (v := 0) hx hb dX4_pass_7 (by decide) ?_
    refine lv_istore_n (lv' := [(2, .int 0), (0, .ref h0), (1, .int (nI N))]) hx hb dX4_pass_8 rfl hl (by decide) rfl (fun ls hl => ?_)
    refine lv_iload_n hx hb dX4_pass_9 rfl (lv_at hl 0 rfl) ?_
    refine lv_aload_n hx hb dX4_pass_10 rfl (lv_at hl 1 rfl) ?_
    refine va_get (D := D) (ci := 6) (v := .int 0) (C := RX4) (T := TX4) (N := 10) hx hb hts zin_X4 hown hK hP 0 rfl rfl 6 (by decide) (hts _ zw_292) (fun _ h9 => h9) rfl dX4_pass_11 ?_
    refine lv_icmp_ge (tgt := 55) hx hb dX4_pass_14 (by decide) (fun c_2 => ?_) (fun c_2 => absurd (by decide) c_2)
    refine lv_aload_n hx hb dX4_pass_55 rfl (lv_at hl 1 rfl) ?_
    refine va_get (D := D) (ci := 6) (v := .int 0) (C := RX4) (T := TX4) (N := 10) hx hb hts zin_X4 hown hK hP 0 rfl rfl 8 (by decide) (hts _ zw_294) (fun _ h9 => h9) rfl dX4_pass_56 ?_
    refine lv_iload_n hx hb dX4_pass_59 rfl (lv_at hl 2 rfl) ?_
    refine lv_iadd hx hb dX4_pass_60 ?_
    refine lv_topi (fun x_3 ex_3 => ?_)
    refine lv_sipush (v := 999) hx hb dX4_pass_61 (by decide) ?_
    refine lv_icmp_le (tgt := 77) hx hb dX4_pass_64 (by decide) (fun c_4 => ?_) (fun c_4 => absurd (by rw [ex_3]; exact z_pa999 N (by omega)) c_4)
    refine lv_iconst (v := 0) hx hb dX4_pass_77 (by decide) ?_
    refine lv_istore_n (lv' := [(2, .int 0), (0, .ref h0), (1, .int (nI N))]) hx hb dX4_pass_78 rfl hl (by decide) rfl (fun ls hl => ?_)
    have hP := hP.sub (ws' := [(h0, .inr (6, [.ref hu, .ref hs, .ref hc, .ref hp, .ref hg, .int 0, .int 0, .int 0, .int 0, .int 0]))]) [0] rfl
    have hD := hD.sub (ws' := [(h0, .inr (6, [.ref hu, .ref hs, .ref hc, .ref hp, .ref hg, .int 0, .int 0, .int 0, .int 0, .int 0]))]) [0] rfl rfl
    have loop : ∀ (n i : Nat), i + n = N → ∀ (H : Heap) (locs : List Loc) (ls : Array Slot), va_P D vwCl [(h0, .inr (6, [.ref hu, .ref hs, .ref hc, .ref hp, .ref hg, .int 0, .int 0, .int 0, .int (nI i), .int 0]))] H → va_D A [(h0, .inr (6, [.ref hu, .ref hs, .ref hc, .ref hp, .ref hg, .int 0, .int 0, .int 0, .int (nI i), .int 0]))] → va_S A s.heap H locs → lv_has ls 3 [(2, .int (nI i)), (0, .ref h0), (1, .int (nI N))] → W p l e (headSpec [Cond.code yX4_pass cX4_pass 3 (some .int)] ({ frames := 7, cells := 1, slots := 6, locals := 130 })).room s m [.ref h0, .int (nI N)].toArray below meth c H locs (1 + 0 * i) (6 + 0 * i) (vx_MQ below (va_Qi (fun (r : Int32) (_ : Unit) => (¬ (nI N) < 1 ∧ (nI N) ≤ 30) ∧ r = (nI N)) (fun _ t => z_W D [] [] A t) A) (z_T (((nI N) < 1 ∨ ¬ (nI N) ≤ 30)) "java/lang/IllegalArgumentException" D [(h0, .inr (6, [.ref hu, .ref hs, .ref hc, .ref hp, .ref hg, .int 0, .int 0, .int 0, .int 0, .int 0]))] [] s.heap.size) [.ref h0, .int (nI N)].toArray s 1 6 A) (F0 m 79 ls []) := by
      intro n
      induction n with
      | zero =>
        intro i hi H locs ls hP hD hS hl
        obtain rfl : i = N := hi
        refine lv_iload_n hx hb dX4_pass_79 rfl (lv_at hl 0 rfl) ?_
        refine lv_iload_n hx hb dX4_pass_80 rfl (lv_at hl 2 rfl) ?_
        refine lv_icmp_ge (tgt := 94) hx hb dX4_pass_81 (by decide) (fun c_5 => ?_) (fun c_5 => absurd (Int32.le_refl _) c_5)
        refine lv_aload_n hx hb dX4_pass_94 rfl (lv_at hl 1 rfl) ?_
        refine va_get (D := D) (ci := 6) (v := .int (nI i)) (C := RX4) (T := TX4) (N := 10) hx hb hts zin_X4 hown hK hP 0 rfl rfl 8 (by decide) (hts _ zw_294) (fun _ h9 => h9) rfl dX4_pass_95 ?_
        refine W.widen (k := 1) (n := 6) (show (1 + 0 * i) ≤ 1 by omega) (show (6 + 0 * i) ≤ 6 by omega) ?_
        exact vx_ret (W.iret (v := (nI i)) hx hb hr (fun t ht hW => ⟨⟨(nI i), (), rfl, ⟨gk, rfl⟩, z_end hP hK hD [] rfl rfl [] rfl ht hW.alike⟩, hS.F ht⟩) hS.2.2 dX4_pass_98)
      | succ n ih =>
        intro i hi H locs ls hP hD hS hl
        refine lv_iload_n hx hb dX4_pass_79 rfl (lv_at hl 0 rfl) ?_
        refine lv_iload_n hx hb dX4_pass_80 rfl (lv_at hl 2 rfl) ?_
        refine lv_icmp_ge (tgt := 94) hx hb dX4_pass_81 (by decide) (fun c_5 => absurd c_5 (nI_ge (by omega) (by omega))) (fun c_5 => ?_)
        refine lv_aload_n hx hb dX4_pass_84 rfl (lv_at hl 1 rfl) ?_
        obtain ⟨hb_6, hc_6⟩ := z_call (wc := [(h0, .inr (6, [.ref hu, .ref hs, .ref hc, .ref hp, .ref hg, .int 0, .int 0, .int 0, .int (nI i), .int 0]))]) (tc := []) ([.ref h0]) hP hK hD hS hA hE hX [0] rfl rfl [] rfl
        have hF_6 := va_free (wc := [(h0, .inr (6, [.ref hu, .ref hs, .ref hc, .ref hp, .ref hg, .int 0, .int 0, .int 0, .int (nI i), .int 0]))]) hD hS hA [0] rfl
        refine va_callv (va_runV (As := []) (rest := []) ⟨hx, hb, hml, hown, hts⟩ (k_X4_passOneDay l D h0 hu hs hc hp hg (nI i) _ ) (z_cV 0 hE zw_832 zw_834 zw_33 zw_91 zw_835 rfl rfl rfl (by decide +kernel) ⟨(Nat.le_of_ble_eq_true rfl), (Nat.le_of_ble_eq_true rfl)⟩) ⟨hb_6, va_recv hK hP (ci := 6) (q0 := 0) rfl rfl, hc_6⟩ rfl rfl hl.1 rfl (lv_room (Nat.le_of_ble_eq_true rfl)) dX4_pass_85 ⟨(show (1 + 0 * i) + 0 ≤ 1 by omega), (show (6 + 0 * i) + 0 ≤ 6 by omega)⟩) hS (fun q _ h => hF_6 q h) hF_6 (fun u_6 t_6 H1 locs ht_6 hvm_6 hw_6 hB_6 hz_6 hk_6 hS1 => ?_)
        obtain ⟨hP, hK, hD⟩ := z_back (wc := [(h0, .inr (6, [.ref hu, .ref hs, .ref hc, .ref hp, .ref hg, .int 0, .int 0, .int 0, .int (nI i), .int 0]))]) (wr := []) (w1 := [(h0, .inr (6, [.ref hu, .ref hs, .ref hc, .ref hp, .ref hg, .int 0, .int 0, .int 0, .int ((nI i) + 1), .int 0]))]) (tr := []) hP hK hD [0] [] rfl rfl rfl (by decide) ht_6 hvm_6 hk_6 hF_6 [] rfl hB_6
        have hS := hS1
        have hP : va_P D vwCl [(h0, .inr (6, [.ref hu, .ref hs, .ref hc, .ref hp, .ref hg, .int 0, .int 0, .int 0, .int ((nI i) + 1), .int 0]))] H1 := hP
        have hD : va_D A [(h0, .inr (6, [.ref hu, .ref hs, .ref hc, .ref hp, .ref hg, .int 0, .int 0, .int 0, .int ((nI i) + 1), .int 0]))] := hD
        have hK : va_K D vwCl [] s := hK
        clear hS1
        have hP : va_P D vwCl [(h0, .inr (6, [.ref hu, .ref hs, .ref hc, .ref hp, .ref hg, .int 0, .int 0, .int 0, .int (nI (i + 1)), .int 0]))] H1 := by rw [nI_1] at hP; exact hP
        have hD : va_D A [(h0, .inr (6, [.ref hu, .ref hs, .ref hc, .ref hp, .ref hg, .int 0, .int 0, .int 0, .int (nI (i + 1)), .int 0]))] := by rw [nI_1] at hD; exact hD
        obtain ⟨x_7, ex_7⟩ : ∃ y : Int32, y = (nI i) + 1 := ⟨_, rfl⟩
        refine lv_iinc (v := x_7) (lv' := [(2, .int x_7), (0, .ref h0), (1, .int (nI N))]) hx hb dX4_pass_88 hl (k := 0) rfl (by rw [ex_7]; rfl) (by decide) rfl (fun ls hl => ?_)
        obtain rfl : x_7 = nI (i + 1) := ex_7.trans (nI_1 i)
        refine lv_goto (tgt := 79) hx hb dX4_pass_91 (by decide) ?_
        refine W.widen (k := (1 + 0 * (i + 1))) (n := (6 + 0 * (i + 1))) (by omega) (by omega) ?_
        exact ih (i + 1) (by omega) _ _ _ (hP.sub (ws' := [(h0, .inr (6, [.ref hu, .ref hs, .ref hc, .ref hp, .ref hg, .int 0, .int 0, .int 0, .int (nI (i + 1)), .int 0]))]) [0] rfl) (hD.sub (ws' := [(h0, .inr (6, [.ref hu, .ref hs, .ref hc, .ref hp, .ref hg, .int 0, .int 0, .int 0, .int (nI (i + 1)), .int 0]))]) [0] rfl rfl) hS (lv_sub hl [0, 1, 2] rfl)
    refine W.widen (k := (1 + 0 * 0)) (n := (6 + 0 * 0)) (by decide) (by decide) ?_
    exact loop N 0 (by omega) _ _ _ (hP.sub (ws' := [(h0, .inr (6, [.ref hu, .ref hs, .ref hc, .ref hp, .ref hg, .int 0, .int 0, .int 0, .int (nI 0), .int 0]))]) [0] rfl) (hD.sub (ws' := [(h0, .inr (6, [.ref hu, .ref hs, .ref hc, .ref hp, .ref hg, .int 0, .int 0, .int 0, .int (nI 0), .int 0]))]) [0] rfl rfl) hS (lv_sub hl [0, 1, 2] rfl)
