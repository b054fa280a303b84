theorem z_ng {p q : Prop} (h : p ∨ ¬ q) : ¬ (¬ p ∧ q) := fun g => h.elim g.1 (fun k => k g.2)
theorem dL_strike_0 : decode cL_strike 0 = .ok (.aload_n 2, 1) := by decide +kernel
theorem dL_strike_1 : decode cL_strike 1 = .ok (.iconst 0, 1) := by decide +kernel
theorem dL_strike_2 : decode cL_strike 2 = .ok (.aload_n 0, 1) := by decide +kernel
theorem dL_strike_3 : decode cL_strike 3 = .ok (.iload_n 1, 1) := by decide +kernel
theorem dL_strike_4 : decode cL_strike 4 = .ok (.invokevirtual 113, 3) := by decide +kernel
theorem zw_908 : Cond.methodLink RL 113 yX4_strike ∈ z_Ts := z_m 908 (by decide +kernel) (by decide +kernel)
theorem zw_909 : Cond.instanceMethod yX4_strike ∈ z_Ts := z_m 909 (by decide +kernel) (by decide +kernel)
theorem zw_910 : Cond.selects RX4 yX4_strike yX4_strike ∈ z_Ts := z_m 910 (by decide +kernel) (by decide +kernel)
theorem zw_911 : Cond.code yX4_strike cX4_strike 2 (some .int) ∈ z_Ts := z_m 911 (by decide +kernel) (by decide +kernel)
theorem zw_405 : Cond.classLink RL 13 "java/lang/IllegalArgumentException" ∈ z_Ts := z_m 405 (by decide +kernel) (by decide +kernel)
theorem zw_417 : Cond.castable "java/lang/IllegalArgumentException" "java/lang/IllegalArgumentException" ∈ z_Ts := z_m 417 (by decide +kernel) (by decide +kernel)
theorem dL_strike_12 : decode cL_strike 12 = .ok (.astore_n 3, 1) := by decide +kernel
theorem dL_strike_13 : decode cL_strike 13 = .ok (.iconst 1, 1) := by decide +kernel
theorem dL_strike_14 : decode cL_strike 14 = .ok (.ireturn, 1) := by decide +kernel
theorem dL_strike_7 : decode cL_strike 7 = .ok (.i2l, 1) := by decide +kernel
theorem dL_strike_8 : decode cL_strike 8 = .ok (.lastore, 1) := by decide +kernel
theorem dL_strike_9 : decode cL_strike 9 = .ok (.goto 6, 3) := by decide +kernel
theorem dL_strike_15 : decode cL_strike 15 = .ok (.iconst 0, 1) := by decide +kernel
theorem dL_strike_16 : decode cL_strike 16 = .ok (.ireturn, 1) := by decide +kernel
set_option maxHeartbeats 4000000 in
set_option maxRecDepth 100000 in
theorem w_L_strike (l : Launch) (hst : l.stackTraces = false) (D : va_G) (h0 : Nat) (hu : Nat) (hs : Nat) (hc : Nat) (hp : Nat) (hg : Nat) (td : Int32) (a0 : Int32) (ho : Nat) (fo : Nat → Int64) (cJ : ClassId) (sz : Nat)  : vx_Met l yL_strike [Cond.codeWith yL_strike cL_strike 4 (some .int) [(0, 9, 12, 13)]] ({ frames := 8, cells := 1, slots := 6, locals := 170 }) (z_Pc D [.ref h0, .int a0, .ref ho] [(h0, .inr (6, [.ref hu, .ref hs, .ref hc, .ref hp, .ref hg, .int 0, .int 0, .int 0, .int td, .int 0])), (ho, .inl (cJ, 1, .inr (.inl fo)))] [(cJ, .long)] sz) (va_Qi (fun (r : Int32) (_ : Unit) => r = (if (¬ a0 < 1 ∧ a0 ≤ 30) then 0 else 1)) (fun _ t => ∃ f2 : Nat → Int64, ((¬ a0 < 1 ∧ a0 ≤ 30) → f2 0 = a0.toInt64) ∧ z_W D [(ho, .inl (cJ, 1, .inr (.inl f2)))] [(cJ, .long)] (va_A [(h0, .inr (6, [.ref hu, .ref hs, .ref hc, .ref hp, .ref hg, .int 0, .int 0, .int 0, .int td, .int 0])), (ho, .inl (cJ, 1, .inr (.inl fo)))] sz) t) (va_A [(h0, .inr (6, [.ref hu, .ref hs, .ref hc, .ref hp, .ref hg, .int 0, .int 0, .int 0, .int td, .int 0])), (ho, .inl (cJ, 1, .inr (.inl fo)))] sz)) (z_T (False) "none" D [(h0, .inr (6, [.ref hu, .ref hs, .ref hc, .ref hp, .ref hg, .int 0, .int 0, .int 0, .int td, .int 0])), (ho, .inl (cJ, 1, .inr (.inl fo)))] [(cJ, .long)] sz) 1 6 (va_A [(h0, .inr (6, [.ref hu, .ref hs, .ref hc, .ref hp, .ref hg, .int 0, .int 0, .int 0, .int td, .int 0])), (ho, .inl (cJ, 1, .inr (.inl fo)))] sz) := by
  refine vx_ofWH (cc := cL_strike) (maxL := 4) (ret := (some .int)) (hh := [(0, 9, 12, 13)]) (by decide +kernel) rfl ?_
  intro p e s m args below meth c s₁ B hml hv
  obtain ⟨rfl, hsz, hP, hK, hD0, hE, hX0⟩ := hv
  have hx := B.exec
  have hb := B.bytes
  have hr := B.returns
  have hts := z_E.ts (args := [.ref h0, .int a0, .ref ho].toArray) hE
  have hown : s.vm.findClass RL = some m.cls := findClass_of_methodNamed B.named
  have hlocks := B.notSynchronized
  have htb := vx_table (x := yL_strike) B (atoms_spec (ws := [Cond.codeWith yL_strike cL_strike 4 (some .int) [(0, 9, 12, 13)]]) B.pre _ List.mem_cons_self)
  subst hsz
  have hD := hD0.self (sz := s.heap.size)
  generalize hAe : va_A [(h0, .inr (6, [.ref hu, .ref hs, .ref hc, .ref hp, .ref hg, .int 0, .int 0, .int 0, .int td, .int 0])), (ho, .inl (cJ, 1, .inr (.inl fo)))] s.heap.size = A at hD hX0 ⊢
  have hX : z_X D A s s.heap := hX0
  have hA : ∀ q : Nat, s.heap.size ≤ q → A q := fun q h => by rw [← hAe]; exact Or.inr h
  have hS : va_S A s.heap s.heap [] := va_S.rf
  have hP : va_P D vwCl [(h0, .inr (6, [.ref hu, .ref hs, .ref hc, .ref hp, .ref hg, .int 0, .int 0, .int 0, .int td, .int 0])), (ho, .inl (cJ, 1, .inr (.inl fo)))] s.heap := hP
  have hl := lv_entry ([.ref h0, .int a0, .ref ho]) (n := 4) (Nat.le_of_ble_eq_true rfl)
  rw [lg_entry_eq]
  generalize (lg_sl ([.ref h0, .int a0, .ref ho]) ++ List.replicate (4 - (lg_sl ([.ref h0, .int a0, .ref ho])).length) Slot.unset).toArray = ls at hl ⊢
  have hl : lv_has ls 4 [(0, .ref h0), (1, .int a0), (2, .ref ho)] := hl
  skip
  refine lv_aload_n hx hb dL_strike_0 rfl (lv_at hl 2 rfl) ?_
  refine lv_iconst (v := 0) hx hb dL_strike_1 (by decide) ?_
  refine lv_aload_n hx hb dL_strike_2 rfl (lv_at hl 0 rfl) ?_
  refine lv_iload_n hx hb dL_strike_3 rfl (lv_at hl 1 rfl) ?_
  obtain ⟨hb_1, hc_1⟩ := z_call (wc := [(h0, .inr (6, [.ref hu, .ref hs, .ref hc, .ref hp, .ref hg, .int 0, .int 0, .int 0, .int td, .int 0]))]) (tc := []) ([.ref h0, .int a0]) hP hK hD hS hA hE hX [0] rfl rfl [] rfl
  have hF_1 := va_free (wc := [(h0, .inr (6, [.ref hu, .ref hs, .ref hc, .ref hp, .ref hg, .int 0, .int 0, .int 0, .int td, .int 0]))]) hD hS hA [0] rfl
  refine vx_calli (vx_runV (As := [.int a0]) (rest := [.int 0, .ref ho]) ⟨hx, hb, hml, hown, hts⟩ (k_X4_strike l hst D h0 hu hs hc hp hg td a0 _ ) (z_cV 1 hE zw_908 zw_909 zw_910 zw_91 zw_911 rfl rfl rfl (by decide +kernel) ⟨(Nat.le_of_ble_eq_true rfl), (Nat.le_of_ble_eq_true rfl)⟩) ⟨hb_1, va_recv hK hP (ci := 6) (q0 := 0) rfl rfl, hc_1⟩ rfl rfl hl.1 rfl (lv_room (Nat.le_of_ble_eq_true rfl)) dL_strike_4 ⟨(Nat.le_of_ble_eq_true rfl), (Nat.le_of_ble_eq_true rfl)⟩) hS (fun q _ h => hF_1 q h) hF_1 (fun q _ h => hF_1 q h) (fun E_1 ce_1 q9_1 u_1 t_1 H1 locs ht_1 hvm_1 hw_1 hB_1 hz_1 hk_1 hS1 hce_1 hcv_1 hcl_1 => ?_) (fun r_1 u_1 t_1 H1 locs ht_1 hvm_1 hw_1 hB_1 hz_1 hk_1 hS1 => ?_)
  · obtain ⟨rfl, hB_1⟩ := hB_1
    obtain ⟨hP, hK, hD⟩ := z_back (wc := [(h0, .inr (6, [.ref hu, .ref hs, .ref hc, .ref hp, .ref hg, .int 0, .int 0, .int 0, .int td, .int 0]))]) (wr := [(ho, .inl (cJ, 1, .inr (.inl fo)))]) (w1 := [(h0, .inr (6, [.ref hu, .ref hs, .ref hc, .ref hp, .ref hg, .int 0, .int 0, .int 0, .int td, .int 0]))]) (tr := [(cJ, .long)]) hP hK hD [0] [1] rfl rfl rfl (by decide) ht_1 hvm_1 hk_1 hF_1 [0] rfl hB_1
    have hS := hS1
    have hP : va_P D vwCl [(ho, .inl (cJ, 1, .inr (.inl fo))), (h0, .inr (6, [.ref hu, .ref hs, .ref hc, .ref hp, .ref hg, .int 0, .int 0, .int 0, .int td, .int 0]))] H1 := hP
    have hD : va_D A [(ho, .inl (cJ, 1, .inr (.inl fo))), (h0, .inr (6, [.ref hu, .ref hs, .ref hc, .ref hp, .ref hg, .int 0, .int 0, .int 0, .int td, .int 0]))] := hD
    have hK : va_K D vwCl [(cJ, .long)] s := hK
    clear hS1
    refine vx_catch (name := "java/lang/IllegalArgumentException") hown [] ⟨0, 9, 12, 13⟩ [] (htb.trans rfl) (fun z hz => nomatch hz) (by decide) (by decide) (hts _ zw_405) (hts _ zw_417) hce_1 hcv_1 hcl_1 ?_
    refine lv_astore_n (lv' := [(3, .ref q9_1), (0, .ref h0), (1, .int a0), (2, .ref ho)]) hx hb dL_strike_12 rfl hl (by decide) rfl (fun ls hl => ?_)
    refine lv_iconst (v := 1) hx hb dL_strike_13 (by decide) ?_
    exact vx_ret (W.iret (v := 1) hx hb hr (fun t ht hW => ⟨⟨1, (), rfl, (if_neg (z_ng hw_1)).symm, ⟨fo, (fun h => absurd h (z_ng hw_1)), z_end hP hK hD [0] rfl rfl [0] rfl ht hW.alike⟩⟩, hS.F ht⟩) hS.2.2 dL_strike_14)
  · obtain ⟨hP, hK, hD⟩ := z_back (wc := [(h0, .inr (6, [.ref hu, .ref hs, .ref hc, .ref hp, .ref hg, .int 0, .int 0, .int 0, .int td, .int 0]))]) (wr := [(ho, .inl (cJ, 1, .inr (.inl fo)))]) (w1 := []) (tr := [(cJ, .long)]) hP hK hD [0] [1] rfl rfl rfl (by decide) ht_1 hvm_1 hk_1 hF_1 [0] rfl hB_1
    have hS := hS1
    have hP : va_P D vwCl [(ho, .inl (cJ, 1, .inr (.inl fo)))] H1 := hP
    have hD : va_D A [(ho, .inl (cJ, 1, .inr (.inl fo)))] := hD
    have hK : va_K D vwCl [(cJ, .long)] s := hK
    clear hS1
    obtain rfl : a0 = r_1 := (hw_1.2).symm
    refine lv_i2l hx hb dL_strike_7 rfl ?_
    refine va_last hx hb hK hP hD hS 0 0 rfl rfl (i := 0) (by unfold vp_in; decide) dL_strike_8 (fun H locs hP hD hS => ?_)
    have hP : va_P D vwCl [(ho, .inl (cJ, 1, .inr (.inl (vp_updL fo (0 : Int32).toNatClampNeg ((a0).toInt64)))))] H := hP
    have hD : va_D A [(ho, .inl (cJ, 1, .inr (.inl (vp_updL fo (0 : Int32).toNatClampNeg ((a0).toInt64)))))] := hD
    refine lv_goto (tgt := 15) hx hb dL_strike_9 (by decide) ?_
    refine lv_iconst (v := 0) hx hb dL_strike_15 (by decide) ?_
    exact vx_ret (W.iret (v := 0) hx hb hr (fun t ht hW => ⟨⟨0, (), rfl, (if_pos hw_1.1).symm, ⟨vp_updL fo (0 : Int32).toNatClampNeg ((a0).toInt64), (fun _ => rfl), z_end hP hK hD [0] rfl rfl [0] rfl ht hW.alike⟩⟩, hS.F ht⟩) hS.2.2 dL_strike_16)
theorem dL_pass_0 : decode cL_pass 0 = .ok (.aload_n 2, 1) := by decide +kernel
theorem dL_pass_1 : decode cL_pass 1 = .ok (.iconst 0, 1) := by decide +kernel
theorem dL_pass_2 : decode cL_pass 2 = .ok (.aload_n 0, 1) := by decide +kernel
theorem dL_pass_3 : decode cL_pass 3 = .ok (.iload_n 1, 1) := by decide +kernel
theorem dL_pass_4 : decode cL_pass 4 = .ok (.invokevirtual 100, 3) := by decide +kernel
theorem zw_822 : Cond.methodLink RL 100 yX4_pass ∈ z_Ts := z_m 822 (by decide +kernel) (by decide +kernel)
theorem zw_823 : Cond.instanceMethod yX4_pass ∈ z_Ts := z_m 823 (by decide +kernel) (by decide +kernel)
theorem zw_824 : Cond.selects RX4 yX4_pass yX4_pass ∈ z_Ts := z_m 824 (by decide +kernel) (by decide +kernel)
theorem zw_825 : Cond.code yX4_pass cX4_pass 3 (some .int) ∈ z_Ts := z_m 825 (by decide +kernel) (by decide +kernel)
theorem dL_pass_12 : decode cL_pass 12 = .ok (.astore_n 3, 1) := by decide +kernel
theorem dL_pass_13 : decode cL_pass 13 = .ok (.iconst 1, 1) := by decide +kernel
theorem dL_pass_14 : decode cL_pass 14 = .ok (.ireturn, 1) := by decide +kernel
theorem dL_pass_7 : decode cL_pass 7 = .ok (.i2l, 1) := by decide +kernel
theorem dL_pass_8 : decode cL_pass 8 = .ok (.lastore, 1) := by decide +kernel
theorem dL_pass_9 : decode cL_pass 9 = .ok (.goto 12, 3) := by decide +kernel
theorem dL_pass_21 : decode cL_pass 21 = .ok (.iconst 0, 1) := by decide +kernel
theorem dL_pass_22 : decode cL_pass 22 = .ok (.ireturn, 1) := by decide +kernel
set_option maxHeartbeats 4000000 in
set_option maxRecDepth 100000 in
theorem w_L_pass (l : Launch) (hst : l.stackTraces = false) (D : va_G) (h0 : Nat) (hu : Nat) (hs : Nat) (hc : Nat) (hp : Nat) (hg : Nat) (a0 : Int32) (ho : Nat) (fo : Nat → Int64) (cJ : ClassId) (sz : Nat)  : vx_Met l yL_pass [Cond.codeWith yL_pass cL_pass 4 (some .int) [(0, 9, 12, 13), (0, 9, 15, 15), (0, 9, 18, 17)]] ({ frames := 8, cells := 1, slots := 6, locals := 170 }) (z_Pc D [.ref h0, .int a0, .ref ho] [(h0, .inr (6, [.ref hu, .ref hs, .ref hc, .ref hp, .ref hg, .int 0, .int 0, .int 0, .int 0, .int 0])), (ho, .inl (cJ, 1, .inr (.inl fo)))] [(cJ, .long)] sz) (va_Qi (fun (r : Int32) (_ : Unit) => r = (if (¬ a0 < 1 ∧ a0 ≤ 30) then 0 else 1)) (fun _ t => ∃ f2 : Nat → Int64, ((¬ a0 < 1 ∧ a0 ≤ 30) → f2 0 = a0.toInt64) ∧ z_W D [(ho, .inl (cJ, 1, .inr (.inl f2)))] [(cJ, .long)] (va_A [(h0, .inr (6, [.ref hu, .ref hs, .ref hc, .ref hp, .ref hg, .int 0, .int 0, .int 0, .int 0, .int 0])), (ho, .inl (cJ, 1, .inr (.inl fo)))] sz) t) (va_A [(h0, .inr (6, [.ref hu, .ref hs, .ref hc, .ref hp, .ref hg, .int 0, .int 0, .int 0, .int 0, .int 0])), (ho, .inl (cJ, 1, .inr (.inl fo)))] sz)) (z_T (False) "none" D [(h0, .inr (6, [.ref hu, .ref hs, .ref hc, .ref hp, .ref hg, .int 0, .int 0, .int 0, .int 0, .int 0])), (ho, .inl (cJ, 1, .inr (.inl fo)))] [(cJ, .long)] sz) 1 6 (va_A [(h0, .inr (6, [.ref hu, .ref hs, .ref hc, .ref hp, .ref hg, .int 0, .int 0, .int 0, .int 0, .int 0])), (ho, .inl (cJ, 1, .inr (.inl fo)))] sz) := by
  refine vx_ofWH (cc := cL_pass) (maxL := 4) (ret := (some .int)) (hh := [(0, 9, 12, 13), (0, 9, 15, 15), (0, 9, 18, 17)]) (by decide +kernel) rfl ?_
  intro p e s m args below meth c s₁ B hml hv
  obtain ⟨rfl, hsz, hP, hK, hD0, hE, hX0⟩ := hv
  have hx := B.exec
  have hb := B.bytes
  have hr := B.returns
  have hts := z_E.ts (args := [.ref h0, .int a0, .ref ho].toArray) hE
  have hown : s.vm.findClass RL = some m.cls := findClass_of_methodNamed B.named
  have hlocks := B.notSynchronized
  have htb := vx_table (x := yL_pass) B (atoms_spec (ws := [Cond.codeWith yL_pass cL_pass 4 (some .int) [(0, 9, 12, 13), (0, 9, 15, 15), (0, 9, 18, 17)]]) B.pre _ List.mem_cons_self)
  subst hsz
  have hD := hD0.self (sz := s.heap.size)
  generalize hAe : va_A [(h0, .inr (6, [.ref hu, .ref hs, .ref hc, .ref hp, .ref hg, .int 0, .int 0, .int 0, .int 0, .int 0])), (ho, .inl (cJ, 1, .inr (.inl fo)))] s.heap.size = A at hD hX0 ⊢
  have hX : z_X D A s s.heap := hX0
  have hA : ∀ q : Nat, s.heap.size ≤ q → A q := fun q h => by rw [← hAe]; exact Or.inr h
  have hS : va_S A s.heap s.heap [] := va_S.rf
  have hP : va_P D vwCl [(h0, .inr (6, [.ref hu, .ref hs, .ref hc, .ref hp, .ref hg, .int 0, .int 0, .int 0, .int 0, .int 0])), (ho, .inl (cJ, 1, .inr (.inl fo)))] s.heap := hP
  have hl := lv_entry ([.ref h0, .int a0, .ref ho]) (n := 4) (Nat.le_of_ble_eq_true rfl)
  rw [lg_entry_eq]
  generalize (lg_sl ([.ref h0, .int a0, .ref ho]) ++ List.replicate (4 - (lg_sl ([.ref h0, .int a0, .ref ho])).length) Slot.unset).toArray = ls at hl ⊢
  have hl : lv_has ls 4 [(0, .ref h0), (1, .int a0), (2, .ref ho)] := hl
  skip
  refine lv_aload_n hx hb dL_pass_0 rfl (lv_at hl 2 rfl) ?_
  refine lv_iconst (v := 0) hx hb dL_pass_1 (by decide) ?_
  refine lv_aload_n hx hb dL_pass_2 rfl (lv_at hl 0 rfl) ?_
  refine lv_iload_n hx hb dL_pass_3 rfl (lv_at hl 1 rfl) ?_
  obtain ⟨hb_1, hc_1⟩ := z_call (wc := [(h0, .inr (6, [.ref hu, .ref hs, .ref hc, .ref hp, .ref hg, .int 0, .int 0, .int 0, .int 0, .int 0]))]) (tc := []) ([.ref h0, .int a0]) hP hK hD hS hA hE hX [0] rfl rfl [] rfl
  have hF_1 := va_free (wc := [(h0, .inr (6, [.ref hu, .ref hs, .ref hc, .ref hp, .ref hg, .int 0, .int 0, .int 0, .int 0, .int 0]))]) hD hS hA [0] rfl
  refine vx_calli (vx_runV (As := [.int a0]) (rest := [.int 0, .ref ho]) ⟨hx, hb, hml, hown, hts⟩ (k_X4_pass l hst D h0 hu hs hc hp hg a0 _ ) (z_cV 1 hE zw_822 zw_823 zw_824 zw_91 zw_825 rfl rfl rfl (by decide +kernel) ⟨(Nat.le_of_ble_eq_true rfl), (Nat.le_of_ble_eq_true rfl)⟩) ⟨hb_1, va_recv hK hP (ci := 6) (q0 := 0) rfl rfl, hc_1⟩ rfl rfl hl.1 rfl (lv_room (Nat.le_of_ble_eq_true rfl)) dL_pass_4 ⟨(Nat.le_of_ble_eq_true rfl), (Nat.le_of_ble_eq_true rfl)⟩) hS (fun q _ h => hF_1 q h) hF_1 (fun q _ h => hF_1 q h) (fun E_1 ce_1 q9_1 u_1 t_1 H1 locs ht_1 hvm_1 hw_1 hB_1 hz_1 hk_1 hS1 hce_1 hcv_1 hcl_1 => ?_) (fun r_1 u_1 t_1 H1 locs ht_1 hvm_1 hw_1 hB_1 hz_1 hk_1 hS1 => ?_)
  · obtain ⟨rfl, hB_1⟩ := hB_1
    obtain ⟨hP, hK, hD⟩ := z_back (wc := [(h0, .inr (6, [.ref hu, .ref hs, .ref hc, .ref hp, .ref hg, .int 0, .int 0, .int 0, .int 0, .int 0]))]) (wr := [(ho, .inl (cJ, 1, .inr (.inl fo)))]) (w1 := [(h0, .inr (6, [.ref hu, .ref hs, .ref hc, .ref hp, .ref hg, .int 0, .int 0, .int 0, .int 0, .int 0]))]) (tr := [(cJ, .long)]) hP hK hD [0] [1] rfl rfl rfl (by decide) ht_1 hvm_1 hk_1 hF_1 [0] rfl hB_1
    have hS := hS1
    have hP : va_P D vwCl [(ho, .inl (cJ, 1, .inr (.inl fo))), (h0, .inr (6, [.ref hu, .ref hs, .ref hc, .ref hp, .ref hg, .int 0, .int 0, .int 0, .int 0, .int 0]))] H1 := hP
    have hD : va_D A [(ho, .inl (cJ, 1, .inr (.inl fo))), (h0, .inr (6, [.ref hu, .ref hs, .ref hc, .ref hp, .ref hg, .int 0, .int 0, .int 0, .int 0, .int 0]))] := hD
    have hK : va_K D vwCl [(cJ, .long)] s := hK
    clear hS1
    refine vx_catch (name := "java/lang/IllegalArgumentException") hown [] ⟨0, 9, 12, 13⟩ [⟨0, 9, 15, 15⟩, ⟨0, 9, 18, 17⟩] (htb.trans rfl) (fun z hz => nomatch hz) (by decide) (by decide) (hts _ zw_405) (hts _ zw_417) hce_1 hcv_1 hcl_1 ?_
    refine lv_astore_n (lv' := [(3, .ref q9_1), (0, .ref h0), (1, .int a0), (2, .ref ho)]) hx hb dL_pass_12 rfl hl (by decide) rfl (fun ls hl => ?_)
    refine lv_iconst (v := 1) hx hb dL_pass_13 (by decide) ?_
    exact vx_ret (W.iret (v := 1) hx hb hr (fun t ht hW => ⟨⟨1, (), rfl, (if_neg (z_ng hw_1)).symm, ⟨fo, (fun h => absurd h (z_ng hw_1)), z_end hP hK hD [0] rfl rfl [0] rfl ht hW.alike⟩⟩, hS.F ht⟩) hS.2.2 dL_pass_14)
  · obtain ⟨hP, hK, hD⟩ := z_back (wc := [(h0, .inr (6, [.ref hu, .ref hs, .ref hc, .ref hp, .ref hg, .int 0, .int 0, .int 0, .int 0, .int 0]))]) (wr := [(ho, .inl (cJ, 1, .inr (.inl fo)))]) (w1 := []) (tr := [(cJ, .long)]) hP hK hD [0] [1] rfl rfl rfl (by decide) ht_1 hvm_1 hk_1 hF_1 [0] rfl hB_1
    have hS := hS1
    have hP : va_P D vwCl [(ho, .inl (cJ, 1, .inr (.inl fo)))] H1 := hP
    have hD : va_D A [(ho, .inl (cJ, 1, .inr (.inl fo)))] := hD
    have hK : va_K D vwCl [(cJ, .long)] s := hK
    clear hS1
    obtain rfl : a0 = r_1 := (hw_1.2).symm
    refine lv_i2l hx hb dL_pass_7 rfl ?_
    refine va_last hx hb hK hP hD hS 0 0 rfl rfl (i := 0) (by unfold vp_in; decide) dL_pass_8 (fun H locs hP hD hS => ?_)
    have hP : va_P D vwCl [(ho, .inl (cJ, 1, .inr (.inl (vp_updL fo (0 : Int32).toNatClampNeg ((a0).toInt64)))))] H := hP
    have hD : va_D A [(ho, .inl (cJ, 1, .inr (.inl (vp_updL fo (0 : Int32).toNatClampNeg ((a0).toInt64)))))] := hD
    refine lv_goto (tgt := 21) hx hb dL_pass_9 (by decide) ?_
    refine lv_iconst (v := 0) hx hb dL_pass_21 (by decide) ?_
    exact vx_ret (W.iret (v := 0) hx hb hr (fun t ht hW => ⟨⟨0, (), rfl, (if_pos hw_1.1).symm, ⟨vp_updL fo (0 : Int32).toNatClampNeg ((a0).toInt64), (fun _ => rfl), z_end hP hK hD [0] rfl rfl [0] rfl ht hW.alike⟩⟩, hS.F ht⟩) hS.2.2 dL_pass_22)
theorem dL_addUnit_0 : decode cL_addUnit 0 = .ok (.aload_n 2, 1) := by decide +kernel
theorem dL_addUnit_1 : decode cL_addUnit 1 = .ok (.iconst 0, 1) := by decide +kernel
theorem dL_addUnit_2 : decode cL_addUnit 2 = .ok (.aload_n 0, 1) := by decide +kernel
theorem dL_addUnit_3 : decode cL_addUnit 3 = .ok (.iload_n 1, 1) := by decide +kernel
theorem dL_addUnit_4 : decode cL_addUnit 4 = .ok (.invokevirtual 7, 3) := by decide +kernel
theorem zw_408 : Cond.methodLink RL 7 yX4_addUnit ∈ z_Ts := z_m 408 (by decide +kernel) (by decide +kernel)
theorem zw_409 : Cond.instanceMethod yX4_addUnit ∈ z_Ts := z_m 409 (by decide +kernel) (by decide +kernel)
theorem zw_410 : Cond.selects RX4 yX4_addUnit yX4_addUnit ∈ z_Ts := z_m 410 (by decide +kernel) (by decide +kernel)
theorem zw_411 : Cond.code yX4_addUnit cX4_addUnit 2 (some .int) ∈ z_Ts := z_m 411 (by decide +kernel) (by decide +kernel)
theorem dL_addUnit_12 : decode cL_addUnit 12 = .ok (.astore_n 3, 1) := by decide +kernel
theorem dL_addUnit_13 : decode cL_addUnit 13 = .ok (.iconst 1, 1) := by decide +kernel
theorem dL_addUnit_14 : decode cL_addUnit 14 = .ok (.ireturn, 1) := by decide +kernel
theorem dL_addUnit_7 : decode cL_addUnit 7 = .ok (.i2l, 1) := by decide +kernel
theorem dL_addUnit_8 : decode cL_addUnit 8 = .ok (.lastore, 1) := by decide +kernel
theorem dL_addUnit_9 : decode cL_addUnit 9 = .ok (.goto 12, 3) := by decide +kernel
theorem dL_addUnit_21 : decode cL_addUnit 21 = .ok (.iconst 0, 1) := by decide +kernel
theorem dL_addUnit_22 : decode cL_addUnit 22 = .ok (.ireturn, 1) := by decide +kernel
set_option maxHeartbeats 4000000 in
set_option maxRecDepth 100000 in
theorem w_L_addUnit (l : Launch) (hst : l.stackTraces = false) (D : va_G) (h0 : Nat) (hu : Nat) (hs : Nat) (hc : Nat) (hp : Nat) (hg : Nat) (td : Int32) (sd : Int32) (cU : ClassId) (fu : Nat → Option Nat) (u0 : Nat) (ul : Nat) (a0 : Int32) (ho : Nat) (fo : Nat → Int64) (cJ : ClassId) (sz : Nat) (hfu : fu 0 = some u0) : vx_Met l yL_addUnit [Cond.codeWith yL_addUnit cL_addUnit 4 (some .int) [(0, 9, 12, 13), (0, 9, 15, 15), (0, 9, 18, 17)]] ({ frames := 8, cells := 1, slots := 6, locals := 170 }) (z_Pc D [.ref h0, .int a0, .ref ho] [(h0, .inr (6, [.ref hu, .ref hs, .ref hc, .ref hp, .ref hg, .int 0, .int 0, .int 0, .int td, .int sd])), (hu, .inl (cU, 10, .inr (.inr (.inr (.inr fu))))), (u0, .inr (5, [.ref ul, .int 0, .int 0, .int 45, .int 0, .int 0, .int (-1)])), (ho, .inl (cJ, 1, .inr (.inl fo)))] [(cU, .object RX3), (cJ, .long)] sz) (va_Qi (fun (r : Int32) (_ : Unit) => r = (if (¬ a0 < 4 ∧ a0 ≤ 12) then 0 else 1)) (fun _ t => ∃ f2 : Nat → Int64, ((¬ a0 < 4 ∧ a0 ≤ 12) → f2 0 = 0) ∧ z_W D [(ho, .inl (cJ, 1, .inr (.inl f2)))] [(cJ, .long)] (va_A [(h0, .inr (6, [.ref hu, .ref hs, .ref hc, .ref hp, .ref hg, .int 0, .int 0, .int 0, .int td, .int sd])), (hu, .inl (cU, 10, .inr (.inr (.inr (.inr fu))))), (u0, .inr (5, [.ref ul, .int 0, .int 0, .int 45, .int 0, .int 0, .int (-1)])), (ho, .inl (cJ, 1, .inr (.inl fo)))] sz) t) (va_A [(h0, .inr (6, [.ref hu, .ref hs, .ref hc, .ref hp, .ref hg, .int 0, .int 0, .int 0, .int td, .int sd])), (hu, .inl (cU, 10, .inr (.inr (.inr (.inr fu))))), (u0, .inr (5, [.ref ul, .int 0, .int 0, .int 45, .int 0, .int 0, .int (-1)])), (ho, .inl (cJ, 1, .inr (.inl fo)))] sz)) (z_T (False) "none" D [(h0, .inr (6, [.ref hu, .ref hs, .ref hc, .ref hp, .ref hg, .int 0, .int 0, .int 0, .int td, .int sd])), (hu, .inl (cU, 10, .inr (.inr (.inr (.inr fu))))), (u0, .inr (5, [.ref ul, .int 0, .int 0, .int 45, .int 0, .int 0, .int (-1)])), (ho, .inl (cJ, 1, .inr (.inl fo)))] [(cU, .object RX3), (cJ, .long)] sz) 1 6 (va_A [(h0, .inr (6, [.ref hu, .ref hs, .ref hc, .ref hp, .ref hg, .int 0, .int 0, .int 0, .int td, .int sd])), (hu, .inl (cU, 10, .inr (.inr (.inr (.inr fu))))), (u0, .inr (5, [.ref ul, .int 0, .int 0, .int 45, .int 0, .int 0, .int (-1)])), (ho, .inl (cJ, 1, .inr (.inl fo)))] sz) := by
  refine vx_ofWH (cc := cL_addUnit) (maxL := 4) (ret := (some .int)) (hh := [(0, 9, 12, 13), (0, 9, 15, 15), (0, 9, 18, 17)]) (by decide +kernel) rfl ?_
  intro p e s m args below meth c s₁ B hml hv
  obtain ⟨rfl, hsz, hP, hK, hD0, hE, hX0⟩ := hv
  have hx := B.exec
  have hb := B.bytes
  have hr := B.returns
  have hts := z_E.ts (args := [.ref h0, .int a0, .ref ho].toArray) hE
  have hown : s.vm.findClass RL = some m.cls := findClass_of_methodNamed B.named
  have hlocks := B.notSynchronized
  have htb := vx_table (x := yL_addUnit) B (atoms_spec (ws := [Cond.codeWith yL_addUnit cL_addUnit 4 (some .int) [(0, 9, 12, 13), (0, 9, 15, 15), (0, 9, 18, 17)]]) B.pre _ List.mem_cons_self)
  subst hsz
  have hD := hD0.self (sz := s.heap.size)
  generalize hAe : va_A [(h0, .inr (6, [.ref hu, .ref hs, .ref hc, .ref hp, .ref hg, .int 0, .int 0, .int 0, .int td, .int sd])), (hu, .inl (cU, 10, .inr (.inr (.inr (.inr fu))))), (u0, .inr (5, [.ref ul, .int 0, .int 0, .int 45, .int 0, .int 0, .int (-1)])), (ho, .inl (cJ, 1, .inr (.inl fo)))] s.heap.size = A at hD hX0 ⊢
  have hX : z_X D A s s.heap := hX0
  have hA : ∀ q : Nat, s.heap.size ≤ q → A q := fun q h => by rw [← hAe]; exact Or.inr h
  have hS : va_S A s.heap s.heap [] := va_S.rf
  have hP : va_P D vwCl [(h0, .inr (6, [.ref hu, .ref hs, .ref hc, .ref hp, .ref hg, .int 0, .int 0, .int 0, .int td, .int sd])), (hu, .inl (cU, 10, .inr (.inr (.inr (.inr fu))))), (u0, .inr (5, [.ref ul, .int 0, .int 0, .int 45, .int 0, .int 0, .int (-1)])), (ho, .inl (cJ, 1, .inr (.inl fo)))] s.heap := hP
  have hl := lv_entry ([.ref h0, .int a0, .ref ho]) (n := 4) (Nat.le_of_ble_eq_true rfl)
  rw [lg_entry_eq]
  generalize (lg_sl ([.ref h0, .int a0, .ref ho]) ++ List.replicate (4 - (lg_sl ([.ref h0, .int a0, .ref ho])).length) Slot.unset).toArray = ls at hl ⊢
  have hl : lv_has ls 4 [(0, .ref h0), (1, .int a0), (2, .ref ho)] := hl
  skip
  refine lv_aload_n hx hb dL_addUnit_0 rfl (lv_at hl 2 rfl) ?_
  refine lv_iconst (v := 0) hx hb dL_addUnit_1 (by decide) ?_
  refine lv_aload_n hx hb dL_addUnit_2 rfl (lv_at hl 0 rfl) ?_
  refine lv_iload_n hx hb dL_addUnit_3 rfl (lv_at hl 1 rfl) ?_
  obtain ⟨hb_1, hc_1⟩ := z_call (wc := [(h0, .inr (6, [.ref hu, .ref hs, .ref hc, .ref hp, .ref hg, .int 0, .int 0, .int 0, .int td, .int sd])), (hu, .inl (cU, 10, .inr (.inr (.inr (.inr fu))))), (u0, .inr (5, [.ref ul, .int 0, .int 0, .int 45, .int 0, .int 0, .int (-1)]))]) (tc := [(cU, .object RX3)]) ([.ref h0, .int a0]) hP hK hD hS hA hE hX [0, 1, 2] rfl rfl [0] rfl
  have hF_1 := va_free (wc := [(h0, .inr (6, [.ref hu, .ref hs, .ref hc, .ref hp, .ref hg, .int 0, .int 0, .int 0, .int td, .int sd])), (hu, .inl (cU, 10, .inr (.inr (.inr (.inr fu))))), (u0, .inr (5, [.ref ul, .int 0, .int 0, .int 45, .int 0, .int 0, .int (-1)]))]) hD hS hA [0, 1, 2] rfl
  refine vx_calli (vx_runV (As := [.int a0]) (rest := [.int 0, .ref ho]) ⟨hx, hb, hml, hown, hts⟩ (k_X4_addUnit l hst D h0 hu hs hc hp hg td sd cU fu u0 ul a0 _ hfu) (z_cV 1 hE zw_408 zw_409 zw_410 zw_91 zw_411 rfl rfl rfl (by decide +kernel) ⟨(Nat.le_of_ble_eq_true rfl), (Nat.le_of_ble_eq_true rfl)⟩) ⟨hb_1, va_recv hK hP (ci := 6) (q0 := 0) rfl rfl, hc_1⟩ rfl rfl hl.1 rfl (lv_room (Nat.le_of_ble_eq_true rfl)) dL_addUnit_4 ⟨(Nat.le_of_ble_eq_true rfl), (Nat.le_of_ble_eq_true rfl)⟩) hS (fun q _ h => hF_1 q h) hF_1 (fun q _ h => hF_1 q h) (fun E_1 ce_1 q9_1 u_1 t_1 H1 locs ht_1 hvm_1 hw_1 hB_1 hz_1 hk_1 hS1 hce_1 hcv_1 hcl_1 => ?_) (fun r_1 u_1 t_1 H1 locs ht_1 hvm_1 hw_1 hB_1 hz_1 hk_1 hS1 => ?_)
  · obtain ⟨rfl, hB_1⟩ := hB_1
    obtain ⟨hP, hK, hD⟩ := z_back (wc := [(h0, .inr (6, [.ref hu, .ref hs, .ref hc, .ref hp, .ref hg, .int 0, .int 0, .int 0, .int td, .int sd])), (hu, .inl (cU, 10, .inr (.inr (.inr (.inr fu))))), (u0, .inr (5, [.ref ul, .int 0, .int 0, .int 45, .int 0, .int 0, .int (-1)]))]) (wr := [(ho, .inl (cJ, 1, .inr (.inl fo)))]) (w1 := [(h0, .inr (6, [.ref hu, .ref hs, .ref hc, .ref hp, .ref hg, .int 0, .int 0, .int 0, .int td, .int sd])), (hu, .inl (cU, 10, .inr (.inr (.inr (.inr fu))))), (u0, .inr (5, [.ref ul, .int 0, .int 0, .int 45, .int 0, .int 0, .int (-1)]))]) (tr := [(cJ, .long)]) hP hK hD [0, 1, 2] [3] rfl rfl rfl (by decide) ht_1 hvm_1 hk_1 hF_1 [1] rfl hB_1
    have hS := hS1
    have hP : va_P D vwCl [(ho, .inl (cJ, 1, .inr (.inl fo))), (h0, .inr (6, [.ref hu, .ref hs, .ref hc, .ref hp, .ref hg, .int 0, .int 0, .int 0, .int td, .int sd])), (hu, .inl (cU, 10, .inr (.inr (.inr (.inr fu))))), (u0, .inr (5, [.ref ul, .int 0, .int 0, .int 45, .int 0, .int 0, .int (-1)]))] H1 := hP
    have hD : va_D A [(ho, .inl (cJ, 1, .inr (.inl fo))), (h0, .inr (6, [.ref hu, .ref hs, .ref hc, .ref hp, .ref hg, .int 0, .int 0, .int 0, .int td, .int sd])), (hu, .inl (cU, 10, .inr (.inr (.inr (.inr fu))))), (u0, .inr (5, [.ref ul, .int 0, .int 0, .int 45, .int 0, .int 0, .int (-1)]))] := hD
    have hK : va_K D vwCl [(cJ, .long), (cU, .object RX3)] s := hK
    clear hS1
    refine vx_catch (name := "java/lang/IllegalArgumentException") hown [] ⟨0, 9, 12, 13⟩ [⟨0, 9, 15, 15⟩, ⟨0, 9, 18, 17⟩] (htb.trans rfl) (fun z hz => nomatch hz) (by decide) (by decide) (hts _ zw_405) (hts _ zw_417) hce_1 hcv_1 hcl_1 ?_
    refine lv_astore_n (lv' := [(3, .ref q9_1), (0, .ref h0), (1, .int a0), (2, .ref ho)]) hx hb dL_addUnit_12 rfl hl (by decide) rfl (fun ls hl => ?_)
    refine lv_iconst (v := 1) hx hb dL_addUnit_13 (by decide) ?_
    exact vx_ret (W.iret (v := 1) hx hb hr (fun t ht hW => ⟨⟨1, (), rfl, (if_neg (z_ng hw_1)).symm, ⟨fo, (fun h => absurd h (z_ng hw_1)), z_end hP hK hD [0] rfl rfl [0] rfl ht hW.alike⟩⟩, hS.F ht⟩) hS.2.2 dL_addUnit_14)
  · obtain ⟨hP, hK, hD⟩ := z_back (wc := [(h0, .inr (6, [.ref hu, .ref hs, .ref hc, .ref hp, .ref hg, .int 0, .int 0, .int 0, .int td, .int sd])), (hu, .inl (cU, 10, .inr (.inr (.inr (.inr fu))))), (u0, .inr (5, [.ref ul, .int 0, .int 0, .int 45, .int 0, .int 0, .int (-1)]))]) (wr := [(ho, .inl (cJ, 1, .inr (.inl fo)))]) (w1 := []) (tr := [(cJ, .long)]) hP hK hD [0, 1, 2] [3] rfl rfl rfl (by decide) ht_1 hvm_1 hk_1 hF_1 [1] rfl hB_1
    have hS := hS1
    have hP : va_P D vwCl [(ho, .inl (cJ, 1, .inr (.inl fo)))] H1 := hP
    have hD : va_D A [(ho, .inl (cJ, 1, .inr (.inl fo)))] := hD
    have hK : va_K D vwCl [(cJ, .long)] s := hK
    clear hS1
    obtain rfl : r_1 = 0 := hw_1.2
    refine lv_i2l (v := 0) hx hb dL_addUnit_7 (by decide) ?_
    refine va_last hx hb hK hP hD hS 0 0 rfl rfl (i := 0) (by unfold vp_in; decide) dL_addUnit_8 (fun H locs hP hD hS => ?_)
    have hP : va_P D vwCl [(ho, .inl (cJ, 1, .inr (.inl (vp_updL fo (0 : Int32).toNatClampNeg 0))))] H := hP
    have hD : va_D A [(ho, .inl (cJ, 1, .inr (.inl (vp_updL fo (0 : Int32).toNatClampNeg 0))))] := hD
    refine lv_goto (tgt := 21) hx hb dL_addUnit_9 (by decide) ?_
    refine lv_iconst (v := 0) hx hb dL_addUnit_21 (by decide) ?_
    exact vx_ret (W.iret (v := 0) hx hb hr (fun t ht hW => ⟨⟨0, (), rfl, (if_pos hw_1.1).symm, ⟨vp_updL fo (0 : Int32).toNatClampNeg 0, (fun _ => rfl), z_end hP hK hD [0] rfl rfl [0] rfl ht hW.alike⟩⟩, hS.F ht⟩) hS.2.2 dL_addUnit_22)
theorem dL_setPeople_0 : decode cL_setPeople 0 = .ok (.aload_n 3, 1) := by decide +kernel
theorem dL_setPeople_1 : decode cL_setPeople 1 = .ok (.iconst 0, 1) := by decide +kernel
theorem dL_setPeople_2 : decode cL_setPeople 2 = .ok (.aload_n 0, 1) := by decide +kernel
theorem dL_setPeople_3 : decode cL_setPeople 3 = .ok (.iload_n 1, 1) := by decide +kernel
theorem dL_setPeople_4 : decode cL_setPeople 4 = .ok (.iload_n 2, 1) := by decide +kernel
theorem dL_setPeople_5 : decode cL_setPeople 5 = .ok (.invokevirtual 97, 3) := by decide +kernel
theorem zw_815 : Cond.methodLink RL 97 yX4_setPeople ∈ z_Ts := z_m 815 (by decide +kernel) (by decide +kernel)
theorem zw_816 : Cond.instanceMethod yX4_setPeople ∈ z_Ts := z_m 816 (by decide +kernel) (by decide +kernel)
theorem zw_817 : Cond.selects RX4 yX4_setPeople yX4_setPeople ∈ z_Ts := z_m 817 (by decide +kernel) (by decide +kernel)
theorem zw_818 : Cond.code yX4_setPeople cX4_setPeople 4 (some .int) ∈ z_Ts := z_m 818 (by decide +kernel) (by decide +kernel)
theorem dL_setPeople_13 : decode cL_setPeople 13 = .ok (.astore 4, 2) := by decide +kernel
theorem dL_setPeople_15 : decode cL_setPeople 15 = .ok (.iconst 1, 1) := by decide +kernel
theorem dL_setPeople_16 : decode cL_setPeople 16 = .ok (.ireturn, 1) := by decide +kernel
theorem dL_setPeople_8 : decode cL_setPeople 8 = .ok (.i2l, 1) := by decide +kernel
theorem dL_setPeople_9 : decode cL_setPeople 9 = .ok (.lastore, 1) := by decide +kernel
theorem dL_setPeople_10 : decode cL_setPeople 10 = .ok (.goto 7, 3) := by decide +kernel
theorem dL_setPeople_17 : decode cL_setPeople 17 = .ok (.iconst 0, 1) := by decide +kernel
theorem dL_setPeople_18 : decode cL_setPeople 18 = .ok (.ireturn, 1) := by decide +kernel
set_option maxHeartbeats 4000000 in
set_option maxRecDepth 100000 in
theorem w_L_setPeople (l : Launch) (hst : l.stackTraces = false) (D : va_G) (h0 : Nat) (hu : Nat) (hs : Nat) (hc : Nat) (hp : Nat) (hg : Nat) (td : Int32) (sd : Int32) (fp : Nat → Int32) (cP : ClassId) (a0 : Int32) (a1 : Int32) (ho : Nat) (fo : Nat → Int64) (cJ : ClassId) (sz : Nat) (hfp : ∀ j : Nat, j < 7 → fp j = 100) : vx_Met l yL_setPeople [Cond.codeWith yL_setPeople cL_setPeople 5 (some .int) [(0, 10, 13, 13)]] ({ frames := 8, cells := 2, slots := 12, locals := 170 }) (z_Pc D [.ref h0, .int a0, .int a1, .ref ho] [(h0, .inr (6, [.ref hu, .ref hs, .ref hc, .ref hp, .ref hg, .int 0, .int 0, .int 0, .int td, .int sd])), (hp, .inl (cP, 7, .inl fp)), (ho, .inl (cJ, 1, .inr (.inl fo)))] [(cP, .int), (cJ, .long)] sz) (va_Qi (fun (r : Int32) (_ : Unit) => r = (if ((¬ a0 < 0 ∧ a0 ≤ 6) ∧ (¬ a1 < 0 ∧ a1 ≤ 999)) then 0 else 1)) (fun _ t => ∃ f2 : Nat → Int64, (((¬ a0 < 0 ∧ a0 ≤ 6) ∧ (¬ a1 < 0 ∧ a1 ≤ 999)) → f2 0 = 100) ∧ z_W D [(ho, .inl (cJ, 1, .inr (.inl f2)))] [(cJ, .long)] (va_A [(h0, .inr (6, [.ref hu, .ref hs, .ref hc, .ref hp, .ref hg, .int 0, .int 0, .int 0, .int td, .int sd])), (hp, .inl (cP, 7, .inl fp)), (ho, .inl (cJ, 1, .inr (.inl fo)))] sz) t) (va_A [(h0, .inr (6, [.ref hu, .ref hs, .ref hc, .ref hp, .ref hg, .int 0, .int 0, .int 0, .int td, .int sd])), (hp, .inl (cP, 7, .inl fp)), (ho, .inl (cJ, 1, .inr (.inl fo)))] sz)) (z_T (False) "none" D [(h0, .inr (6, [.ref hu, .ref hs, .ref hc, .ref hp, .ref hg, .int 0, .int 0, .int 0, .int td, .int sd])), (hp, .inl (cP, 7, .inl fp)), (ho, .inl (cJ, 1, .inr (.inl fo)))] [(cP, .int), (cJ, .long)] sz) 2 12 (va_A [(h0, .inr (6, [.ref hu, .ref hs, .ref hc, .ref hp, .ref hg, .int 0, .int 0, .int 0, .int td, .int sd])), (hp, .inl (cP, 7, .inl fp)), (ho, .inl (cJ, 1, .inr (.inl fo)))] sz) := by
  refine vx_ofWH (cc := cL_setPeople) (maxL := 5) (ret := (some .int)) (hh := [(0, 10, 13, 13)]) (by decide +kernel) rfl ?_
  intro p e s m args below meth c s₁ B hml hv
  obtain ⟨rfl, hsz, hP, hK, hD0, hE, hX0⟩ := hv
  have hx := B.exec
  have hb := B.bytes
  have hr := B.returns
  have hts := z_E.ts (args := [.ref h0, .int a0, .int a1, .ref ho].toArray) hE
  have hown : s.vm.findClass RL = some m.cls := findClass_of_methodNamed B.named
  have hlocks := B.notSynchronized
  have htb := vx_table (x := yL_setPeople) B (atoms_spec (ws := [Cond.codeWith yL_setPeople cL_setPeople 5 (some .int) [(0, 10, 13, 13)]]) B.pre _ List.mem_cons_self)
  subst hsz
  have hD := hD0.self (sz := s.heap.size)
  generalize hAe : va_A [(h0, .inr (6, [.ref hu, .ref hs, .ref hc, .ref hp, .ref hg, .int 0, .int 0, .int 0, .int td, .int sd])), (hp, .inl (cP, 7, .inl fp)), (ho, .inl (cJ, 1, .inr (.inl fo)))] s.heap.size = A at hD hX0 ⊢
  have hX : z_X D A s s.heap := hX0
  have hA : ∀ q : Nat, s.heap.size ≤ q → A q := fun q h => by rw [← hAe]; exact Or.inr h
  have hS : va_S A s.heap s.heap [] := va_S.rf
  have hP : va_P D vwCl [(h0, .inr (6, [.ref hu, .ref hs, .ref hc, .ref hp, .ref hg, .int 0, .int 0, .int 0, .int td, .int sd])), (hp, .inl (cP, 7, .inl fp)), (ho, .inl (cJ, 1, .inr (.inl fo)))] s.heap := hP
  have hl := lv_entry ([.ref h0, .int a0, .int a1, .ref ho]) (n := 5) (Nat.le_of_ble_eq_true rfl)
  rw [lg_entry_eq]
  generalize (lg_sl ([.ref h0, .int a0, .int a1, .ref ho]) ++ List.replicate (5 - (lg_sl ([.ref h0, .int a0, .int a1, .ref ho])).length) Slot.unset).toArray = ls at hl ⊢
  have hl : lv_has ls 5 [(0, .ref h0), (1, .int a0), (2, .int a1), (3, .ref ho)] := hl
  skip
  refine lv_aload_n hx hb dL_setPeople_0 rfl (lv_at hl 3 rfl) ?_
  refine lv_iconst (v := 0) hx hb dL_setPeople_1 (by decide) ?_
  refine lv_aload_n hx hb dL_setPeople_2 rfl (lv_at hl 0 rfl) ?_
  refine lv_iload_n hx hb dL_setPeople_3 rfl (lv_at hl 1 rfl) ?_
  refine lv_iload_n hx hb dL_setPeople_4 rfl (lv_at hl 2 rfl) ?_
  obtain ⟨hb_1, hc_1⟩ := z_call (wc := [(h0, .inr (6, [.ref hu, .ref hs, .ref hc, .ref hp, .ref hg, .int 0, .int 0, .int 0, .int td, .int sd])), (hp, .inl (cP, 7, .inl fp))]) (tc := [(cP, .int)]) ([.ref h0, .int a0, .int a1]) hP hK hD hS hA hE hX [0, 1] rfl rfl [0] rfl
  have hF_1 := va_free (wc := [(h0, .inr (6, [.ref hu, .ref hs, .ref hc, .ref hp, .ref hg, .int 0, .int 0, .int 0, .int td, .int sd])), (hp, .inl (cP, 7, .inl fp))]) hD hS hA [0, 1] rfl
  refine vx_calli (vx_runV (As := [.int a0, .int a1]) (rest := [.int 0, .ref ho]) ⟨hx, hb, hml, hown, hts⟩ (k_X4_setPeople l hst D h0 hu hs hc hp hg td sd fp cP a0 a1 _ hfp) (z_cV 2 hE zw_815 zw_816 zw_817 zw_91 zw_818 rfl rfl rfl (by decide +kernel) ⟨(Nat.le_of_ble_eq_true rfl), (Nat.le_of_ble_eq_true rfl)⟩) ⟨hb_1, va_recv hK hP (ci := 6) (q0 := 0) rfl rfl, hc_1⟩ rfl rfl hl.1 rfl (lv_room (Nat.le_of_ble_eq_true rfl)) dL_setPeople_5 ⟨(Nat.le_of_ble_eq_true rfl), (Nat.le_of_ble_eq_true rfl)⟩) hS (fun q _ h => hF_1 q h) hF_1 (fun q _ h => hF_1 q h) (fun E_1 ce_1 q9_1 u_1 t_1 H1 locs ht_1 hvm_1 hw_1 hB_1 hz_1 hk_1 hS1 hce_1 hcv_1 hcl_1 => ?_) (fun r_1 u_1 t_1 H1 locs ht_1 hvm_1 hw_1 hB_1 hz_1 hk_1 hS1 => ?_)
  · obtain ⟨rfl, hB_1⟩ := hB_1
    obtain ⟨hP, hK, hD⟩ := z_back (wc := [(h0, .inr (6, [.ref hu, .ref hs, .ref hc, .ref hp, .ref hg, .int 0, .int 0, .int 0, .int td, .int sd])), (hp, .inl (cP, 7, .inl fp))]) (wr := [(ho, .inl (cJ, 1, .inr (.inl fo)))]) (w1 := [(h0, .inr (6, [.ref hu, .ref hs, .ref hc, .ref hp, .ref hg, .int 0, .int 0, .int 0, .int td, .int sd])), (hp, .inl (cP, 7, .inl fp))]) (tr := [(cJ, .long)]) hP hK hD [0, 1] [2] rfl rfl rfl (by decide) ht_1 hvm_1 hk_1 hF_1 [1] rfl hB_1
    have hS := hS1
    have hP : va_P D vwCl [(ho, .inl (cJ, 1, .inr (.inl fo))), (h0, .inr (6, [.ref hu, .ref hs, .ref hc, .ref hp, .ref hg, .int 0, .int 0, .int 0, .int td, .int sd])), (hp, .inl (cP, 7, .inl fp))] H1 := hP
    have hD : va_D A [(ho, .inl (cJ, 1, .inr (.inl fo))), (h0, .inr (6, [.ref hu, .ref hs, .ref hc, .ref hp, .ref hg, .int 0, .int 0, .int 0, .int td, .int sd])), (hp, .inl (cP, 7, .inl fp))] := hD
    have hK : va_K D vwCl [(cJ, .long), (cP, .int)] s := hK
    clear hS1
    refine vx_catch (name := "java/lang/IllegalArgumentException") hown [] ⟨0, 10, 13, 13⟩ [] (htb.trans rfl) (fun z hz => nomatch hz) (by decide) (by decide) (hts _ zw_405) (hts _ zw_417) hce_1 hcv_1 hcl_1 ?_
    refine lv_astore (lv' := [(4, .ref q9_1), (0, .ref h0), (1, .int a0), (2, .int a1), (3, .ref ho)]) hx hb dL_setPeople_13 hl (by decide) rfl (fun ls hl => ?_)
    refine lv_iconst (v := 1) hx hb dL_setPeople_15 (by decide) ?_
    exact vx_ret (W.iret (v := 1) hx hb hr (fun t ht hW => ⟨⟨1, (), rfl, (if_neg (fun g => hw_1.elim (fun q => z_ng q g.1) (fun q => z_ng q g.2))).symm, ⟨fo, (fun h => absurd h (fun g => hw_1.elim (fun q => z_ng q g.1) (fun q => z_ng q g.2))), z_end hP hK hD [0] rfl rfl [0] rfl ht hW.alike⟩⟩, hS.F ht⟩) hS.2.2 dL_setPeople_16)
  · obtain ⟨hP, hK, hD⟩ := z_back (wc := [(h0, .inr (6, [.ref hu, .ref hs, .ref hc, .ref hp, .ref hg, .int 0, .int 0, .int 0, .int td, .int sd])), (hp, .inl (cP, 7, .inl fp))]) (wr := [(ho, .inl (cJ, 1, .inr (.inl fo)))]) (w1 := []) (tr := [(cJ, .long)]) hP hK hD [0, 1] [2] rfl rfl rfl (by decide) ht_1 hvm_1 hk_1 hF_1 [1] rfl hB_1
    have hS := hS1
    have hP : va_P D vwCl [(ho, .inl (cJ, 1, .inr (.inl fo)))] H1 := hP
    have hD : va_D A [(ho, .inl (cJ, 1, .inr (.inl fo)))] := hD
    have hK : va_K D vwCl [(cJ, .long)] s := hK
    clear hS1
    obtain rfl : r_1 = 100 := hw_1.2
    refine lv_i2l (v := 100) hx hb dL_setPeople_8 (by decide) ?_
    refine va_last hx hb hK hP hD hS 0 0 rfl rfl (i := 0) (by unfold vp_in; decide) dL_setPeople_9 (fun H locs hP hD hS => ?_)
    have hP : va_P D vwCl [(ho, .inl (cJ, 1, .inr (.inl (vp_updL fo (0 : Int32).toNatClampNeg 100))))] H := hP
    have hD : va_D A [(ho, .inl (cJ, 1, .inr (.inl (vp_updL fo (0 : Int32).toNatClampNeg 100))))] := hD
    refine lv_goto (tgt := 17) hx hb dL_setPeople_10 (by decide) ?_
    refine lv_iconst (v := 0) hx hb dL_setPeople_17 (by decide) ?_
    exact vx_ret (W.iret (v := 0) hx hb hr (fun t ht hW => ⟨⟨0, (), rfl, (if_pos hw_1.1).symm, ⟨vp_updL fo (0 : Int32).toNatClampNeg 100, (fun _ => rfl), z_end hP hK hD [0] rfl rfl [0] rfl ht hW.alike⟩⟩, hS.F ht⟩) hS.2.2 dL_setPeople_18)
theorem dL_addCrew_0 : decode cL_addCrew 0 = .ok (.aload_n 2, 1) := by decide +kernel
theorem dL_addCrew_1 : decode cL_addCrew 1 = .ok (.iconst 0, 1) := by decide +kernel
theorem dL_addCrew_2 : decode cL_addCrew 2 = .ok (.aload_n 0, 1) := by decide +kernel
theorem dL_addCrew_3 : decode cL_addCrew 3 = .ok (.iload_n 1, 1) := by decide +kernel
theorem dL_addCrew_4 : decode cL_addCrew 4 = .ok (.invokevirtual 103, 3) := by decide +kernel
theorem zw_880 : Cond.methodLink RL 103 yX4_addCrew ∈ z_Ts := z_m 880 (by decide +kernel) (by decide +kernel)
theorem zw_881 : Cond.instanceMethod yX4_addCrew ∈ z_Ts := z_m 881 (by decide +kernel) (by decide +kernel)
theorem zw_882 : Cond.selects RX4 yX4_addCrew yX4_addCrew ∈ z_Ts := z_m 882 (by decide +kernel) (by decide +kernel)
theorem zw_883 : Cond.code yX4_addCrew cX4_addCrew 2 (some .int) ∈ z_Ts := z_m 883 (by decide +kernel) (by decide +kernel)
theorem dL_addCrew_12 : decode cL_addCrew 12 = .ok (.astore_n 3, 1) := by decide +kernel
theorem dL_addCrew_13 : decode cL_addCrew 13 = .ok (.iconst 1, 1) := by decide +kernel
theorem dL_addCrew_14 : decode cL_addCrew 14 = .ok (.ireturn, 1) := by decide +kernel
theorem dL_addCrew_7 : decode cL_addCrew 7 = .ok (.i2l, 1) := by decide +kernel
theorem dL_addCrew_8 : decode cL_addCrew 8 = .ok (.lastore, 1) := by decide +kernel
theorem dL_addCrew_9 : decode cL_addCrew 9 = .ok (.goto 9, 3) := by decide +kernel
theorem dL_addCrew_18 : decode cL_addCrew 18 = .ok (.iconst 0, 1) := by decide +kernel
theorem dL_addCrew_19 : decode cL_addCrew 19 = .ok (.ireturn, 1) := by decide +kernel
set_option maxHeartbeats 4000000 in
set_option maxRecDepth 100000 in
theorem w_L_addCrew (l : Launch) (hst : l.stackTraces = false) (D : va_G) (h0 : Nat) (hu : Nat) (hs : Nat) (hc : Nat) (hp : Nat) (hg : Nat) (td : Int32) (sd : Int32) (cC : ClassId) (fc : Nat → Option Nat) (w0 : Nat) (a0 : Int32) (ho : Nat) (fo : Nat → Int64) (cJ : ClassId) (sz : Nat) (hfc : fc 0 = some w0) (hna : narrow .char (.int a0) = .int a0) (hfa : fits .char (.int a0) = true) : vx_Met l yL_addCrew [Cond.codeWith yL_addCrew cL_addCrew 4 (some .int) [(0, 9, 12, 13), (0, 9, 15, 17)]] ({ frames := 7, cells := 1, slots := 6, locals := 140 }) (z_Pc D [.ref h0, .int a0, .ref ho] [(h0, .inr (6, [.ref hu, .ref hs, .ref hc, .ref hp, .ref hg, .int 0, .int 0, .int 0, .int td, .int sd])), (hc, .inl (cC, 4, .inr (.inr (.inr (.inr fc))))), (w0, .inr (2, [.int 100, .int (-1)])), (ho, .inl (cJ, 1, .inr (.inl fo)))] [(cC, .object RX0), (cJ, .long)] sz) (va_Qi (fun (r : Int32) (_ : Unit) => r = (if (a0 = 100 ∨ a0 = 110 ∨ a0 = 104) then 0 else 1)) (fun _ t => ∃ f2 : Nat → Int64, ((a0 = 100 ∨ a0 = 110 ∨ a0 = 104) → f2 0 = 0) ∧ z_W D [(ho, .inl (cJ, 1, .inr (.inl f2)))] [(cJ, .long)] (va_A [(h0, .inr (6, [.ref hu, .ref hs, .ref hc, .ref hp, .ref hg, .int 0, .int 0, .int 0, .int td, .int sd])), (hc, .inl (cC, 4, .inr (.inr (.inr (.inr fc))))), (w0, .inr (2, [.int 100, .int (-1)])), (ho, .inl (cJ, 1, .inr (.inl fo)))] sz) t) (va_A [(h0, .inr (6, [.ref hu, .ref hs, .ref hc, .ref hp, .ref hg, .int 0, .int 0, .int 0, .int td, .int sd])), (hc, .inl (cC, 4, .inr (.inr (.inr (.inr fc))))), (w0, .inr (2, [.int 100, .int (-1)])), (ho, .inl (cJ, 1, .inr (.inl fo)))] sz)) (z_T (False) "none" D [(h0, .inr (6, [.ref hu, .ref hs, .ref hc, .ref hp, .ref hg, .int 0, .int 0, .int 0, .int td, .int sd])), (hc, .inl (cC, 4, .inr (.inr (.inr (.inr fc))))), (w0, .inr (2, [.int 100, .int (-1)])), (ho, .inl (cJ, 1, .inr (.inl fo)))] [(cC, .object RX0), (cJ, .long)] sz) 1 6 (va_A [(h0, .inr (6, [.ref hu, .ref hs, .ref hc, .ref hp, .ref hg, .int 0, .int 0, .int 0, .int td, .int sd])), (hc, .inl (cC, 4, .inr (.inr (.inr (.inr fc))))), (w0, .inr (2, [.int 100, .int (-1)])), (ho, .inl (cJ, 1, .inr (.inl fo)))] sz) := by
  refine vx_ofWH (cc := cL_addCrew) (maxL := 4) (ret := (some .int)) (hh := [(0, 9, 12, 13), (0, 9, 15, 17)]) (by decide +kernel) rfl ?_
  intro p e s m args below meth c s₁ B hml hv
  obtain ⟨rfl, hsz, hP, hK, hD0, hE, hX0⟩ := hv
  have hx := B.exec
  have hb := B.bytes
  have hr := B.returns
  have hts := z_E.ts (args := [.ref h0, .int a0, .ref ho].toArray) hE
  have hown : s.vm.findClass RL = some m.cls := findClass_of_methodNamed B.named
  have hlocks := B.notSynchronized
  have htb := vx_table (x := yL_addCrew) B (atoms_spec (ws := [Cond.codeWith yL_addCrew cL_addCrew 4 (some .int) [(0, 9, 12, 13), (0, 9, 15, 17)]]) B.pre _ List.mem_cons_self)
  subst hsz
  have hD := hD0.self (sz := s.heap.size)
  generalize hAe : va_A [(h0, .inr (6, [.ref hu, .ref hs, .ref hc, .ref hp, .ref hg, .int 0, .int 0, .int 0, .int td, .int sd])), (hc, .inl (cC, 4, .inr (.inr (.inr (.inr fc))))), (w0, .inr (2, [.int 100, .int (-1)])), (ho, .inl (cJ, 1, .inr (.inl fo)))] s.heap.size = A at hD hX0 ⊢
  have hX : z_X D A s s.heap := hX0
  have hA : ∀ q : Nat, s.heap.size ≤ q → A q := fun q h => by rw [← hAe]; exact Or.inr h
  have hS : va_S A s.heap s.heap [] := va_S.rf
  have hP : va_P D vwCl [(h0, .inr (6, [.ref hu, .ref hs, .ref hc, .ref hp, .ref hg, .int 0, .int 0, .int 0, .int td, .int sd])), (hc, .inl (cC, 4, .inr (.inr (.inr (.inr fc))))), (w0, .inr (2, [.int 100, .int (-1)])), (ho, .inl (cJ, 1, .inr (.inl fo)))] s.heap := hP
  have hl := lv_entry ([.ref h0, .int a0, .ref ho]) (n := 4) (Nat.le_of_ble_eq_true rfl)
  rw [lg_entry_eq]
  generalize (lg_sl ([.ref h0, .int a0, .ref ho]) ++ List.replicate (4 - (lg_sl ([.ref h0, .int a0, .ref ho])).length) Slot.unset).toArray = ls at hl ⊢
  have hl : lv_has ls 4 [(0, .ref h0), (1, .int a0), (2, .ref ho)] := hl
  skip
  refine lv_aload_n hx hb dL_addCrew_0 rfl (lv_at hl 2 rfl) ?_
  refine lv_iconst (v := 0) hx hb dL_addCrew_1 (by decide) ?_
  refine lv_aload_n hx hb dL_addCrew_2 rfl (lv_at hl 0 rfl) ?_
  refine lv_iload_n hx hb dL_addCrew_3 rfl (lv_at hl 1 rfl) ?_
  obtain ⟨hb_1, hc_1⟩ := z_call (wc := [(h0, .inr (6, [.ref hu, .ref hs, .ref hc, .ref hp, .ref hg, .int 0, .int 0, .int 0, .int td, .int sd])), (hc, .inl (cC, 4, .inr (.inr (.inr (.inr fc))))), (w0, .inr (2, [.int 100, .int (-1)]))]) (tc := [(cC, .object RX0)]) ([.ref h0, .int a0]) hP hK hD hS hA hE hX [0, 1, 2] rfl rfl [0] rfl
  have hF_1 := va_free (wc := [(h0, .inr (6, [.ref hu, .ref hs, .ref hc, .ref hp, .ref hg, .int 0, .int 0, .int 0, .int td, .int sd])), (hc, .inl (cC, 4, .inr (.inr (.inr (.inr fc))))), (w0, .inr (2, [.int 100, .int (-1)]))]) hD hS hA [0, 1, 2] rfl
  refine vx_calli (vx_runV (As := [.int a0]) (rest := [.int 0, .ref ho]) ⟨hx, hb, hml, hown, hts⟩ (k_X4_addCrew l hst D h0 hu hs hc hp hg td sd cC fc w0 a0 _ hfc hna hfa) (z_cV 1 hE zw_880 zw_881 zw_882 zw_91 zw_883 rfl rfl rfl (by decide +kernel) ⟨(Nat.le_of_ble_eq_true rfl), (Nat.le_of_ble_eq_true rfl)⟩) ⟨hb_1, va_recv hK hP (ci := 6) (q0 := 0) rfl rfl, hc_1⟩ rfl rfl hl.1 rfl (lv_room (Nat.le_of_ble_eq_true rfl)) dL_addCrew_4 ⟨(Nat.le_of_ble_eq_true rfl), (Nat.le_of_ble_eq_true rfl)⟩) hS (fun q _ h => hF_1 q h) hF_1 (fun q _ h => hF_1 q h) (fun E_1 ce_1 q9_1 u_1 t_1 H1 locs ht_1 hvm_1 hw_1 hB_1 hz_1 hk_1 hS1 hce_1 hcv_1 hcl_1 => ?_) (fun r_1 u_1 t_1 H1 locs ht_1 hvm_1 hw_1 hB_1 hz_1 hk_1 hS1 => ?_)
  · obtain ⟨rfl, hB_1⟩ := hB_1
    obtain ⟨hP, hK, hD⟩ := z_back (wc := [(h0, .inr (6, [.ref hu, .ref hs, .ref hc, .ref hp, .ref hg, .int 0, .int 0, .int 0, .int td, .int sd])), (hc, .inl (cC, 4, .inr (.inr (.inr (.inr fc))))), (w0, .inr (2, [.int 100, .int (-1)]))]) (wr := [(ho, .inl (cJ, 1, .inr (.inl fo)))]) (w1 := [(h0, .inr (6, [.ref hu, .ref hs, .ref hc, .ref hp, .ref hg, .int 0, .int 0, .int 0, .int td, .int sd])), (hc, .inl (cC, 4, .inr (.inr (.inr (.inr fc))))), (w0, .inr (2, [.int 100, .int (-1)]))]) (tr := [(cJ, .long)]) hP hK hD [0, 1, 2] [3] rfl rfl rfl (by decide) ht_1 hvm_1 hk_1 hF_1 [1] rfl hB_1
    have hS := hS1
    have hP : va_P D vwCl [(ho, .inl (cJ, 1, .inr (.inl fo))), (h0, .inr (6, [.ref hu, .ref hs, .ref hc, .ref hp, .ref hg, .int 0, .int 0, .int 0, .int td, .int sd])), (hc, .inl (cC, 4, .inr (.inr (.inr (.inr fc))))), (w0, .inr (2, [.int 100, .int (-1)]))] H1 := hP
    have hD : va_D A [(ho, .inl (cJ, 1, .inr (.inl fo))), (h0, .inr (6, [.ref hu, .ref hs, .ref hc, .ref hp, .ref hg, .int 0, .int 0, .int 0, .int td, .int sd])), (hc, .inl (cC, 4, .inr (.inr (.inr (.inr fc))))), (w0, .inr (2, [.int 100, .int (-1)]))] := hD
    have hK : va_K D vwCl [(cJ, .long), (cC, .object RX0)] s := hK
    clear hS1
    refine vx_catch (name := "java/lang/IllegalArgumentException") hown [] ⟨0, 9, 12, 13⟩ [⟨0, 9, 15, 17⟩] (htb.trans rfl) (fun z hz => nomatch hz) (by decide) (by decide) (hts _ zw_405) (hts _ zw_417) hce_1 hcv_1 hcl_1 ?_
    refine lv_astore_n (lv' := [(3, .ref q9_1), (0, .ref h0), (1, .int a0), (2, .ref ho)]) hx hb dL_addCrew_12 rfl hl (by decide) rfl (fun ls hl => ?_)
    refine lv_iconst (v := 1) hx hb dL_addCrew_13 (by decide) ?_
    exact vx_ret (W.iret (v := 1) hx hb hr (fun t ht hW => ⟨⟨1, (), rfl, (if_neg (hw_1)).symm, ⟨fo, (fun h => absurd h (hw_1)), z_end hP hK hD [0] rfl rfl [0] rfl ht hW.alike⟩⟩, hS.F ht⟩) hS.2.2 dL_addCrew_14)
  · obtain ⟨hP, hK, hD⟩ := z_back (wc := [(h0, .inr (6, [.ref hu, .ref hs, .ref hc, .ref hp, .ref hg, .int 0, .int 0, .int 0, .int td, .int sd])), (hc, .inl (cC, 4, .inr (.inr (.inr (.inr fc))))), (w0, .inr (2, [.int 100, .int (-1)]))]) (wr := [(ho, .inl (cJ, 1, .inr (.inl fo)))]) (w1 := []) (tr := [(cJ, .long)]) hP hK hD [0, 1, 2] [3] rfl rfl rfl (by decide) ht_1 hvm_1 hk_1 hF_1 [1] rfl hB_1
    have hS := hS1
    have hP : va_P D vwCl [(ho, .inl (cJ, 1, .inr (.inl fo)))] H1 := hP
    have hD : va_D A [(ho, .inl (cJ, 1, .inr (.inl fo)))] := hD
    have hK : va_K D vwCl [(cJ, .long)] s := hK
    clear hS1
    obtain rfl : r_1 = 0 := hw_1.2
    refine lv_i2l (v := 0) hx hb dL_addCrew_7 (by decide) ?_
    refine va_last hx hb hK hP hD hS 0 0 rfl rfl (i := 0) (by unfold vp_in; decide) dL_addCrew_8 (fun H locs hP hD hS => ?_)
    have hP : va_P D vwCl [(ho, .inl (cJ, 1, .inr (.inl (vp_updL fo (0 : Int32).toNatClampNeg 0))))] H := hP
    have hD : va_D A [(ho, .inl (cJ, 1, .inr (.inl (vp_updL fo (0 : Int32).toNatClampNeg 0))))] := hD
    refine lv_goto (tgt := 18) hx hb dL_addCrew_9 (by decide) ?_
    refine lv_iconst (v := 0) hx hb dL_addCrew_18 (by decide) ?_
    exact vx_ret (W.iret (v := 0) hx hb hr (fun t ht hW => ⟨⟨0, (), rfl, (if_pos hw_1.1).symm, ⟨vp_updL fo (0 : Int32).toNatClampNeg 0, (fun _ => rfl), z_end hP hK hD [0] rfl rfl [0] rfl ht hW.alike⟩⟩, hS.F ht⟩) hS.2.2 dL_addCrew_19)
theorem dL_shortest_0 : decode cL_shortest 0 = .ok (.aload_n 1, 1) := by decide +kernel
theorem dL_shortest_1 : decode cL_shortest 1 = .ok (.iconst 0, 1) := by decide +kernel
theorem dL_shortest_2 : decode cL_shortest 2 = .ok (.aload_n 0, 1) := by decide +kernel
theorem dL_shortest_3 : decode cL_shortest 3 = .ok (.invokevirtual 120, 3) := by decide +kernel
theorem zw_926 : Cond.methodLink RL 120 yX4_shortest ∈ z_Ts := z_m 926 (by decide +kernel) (by decide +kernel)
theorem zw_927 : Cond.instanceMethod yX4_shortest ∈ z_Ts := z_m 927 (by decide +kernel) (by decide +kernel)
theorem zw_928 : Cond.selects RX4 yX4_shortest yX4_shortest ∈ z_Ts := z_m 928 (by decide +kernel) (by decide +kernel)
theorem zw_929 : Cond.code yX4_shortest cX4_shortest 1 (some .int) ∈ z_Ts := z_m 929 (by decide +kernel) (by decide +kernel)
theorem dL_shortest_6 : decode cL_shortest 6 = .ok (.i2l, 1) := by decide +kernel
theorem dL_shortest_7 : decode cL_shortest 7 = .ok (.lastore, 1) := by decide +kernel
theorem dL_shortest_8 : decode cL_shortest 8 = .ok (.goto 6, 3) := by decide +kernel
theorem dL_shortest_14 : decode cL_shortest 14 = .ok (.iconst 0, 1) := by decide +kernel
theorem dL_shortest_15 : decode cL_shortest 15 = .ok (.ireturn, 1) := by decide +kernel
set_option maxHeartbeats 4000000 in
set_option maxRecDepth 100000 in
theorem w_L_shortest (l : Launch) (hst : l.stackTraces = false) (D : va_G) (h0 : Nat) (hu : Nat) (hs : Nat) (hc : Nat) (hp : Nat) (hg : Nat) (td : Int32) (sd : Int32) (go : Nat) (gs : Nat) (ge : Nat) (gb : Nat) (cS : ClassId) (cB : ClassId) (ho : Nat) (fo : Nat → Int64) (cJ : ClassId) (sz : Nat)  : vx_Met l yL_shortest [Cond.codeWith yL_shortest cL_shortest 3 (some .int) [(0, 8, 11, 15)]] ({ frames := 4, cells := 0, slots := 0, locals := 170 }) (z_Pc D [.ref h0, .ref ho] [(h0, .inr (6, [.ref hu, .ref hs, .ref hc, .ref hp, .ref hg, .int 0, .int 0, .int 0, .int td, .int sd])), (hg, .inr (3, [.ref go, .ref gs, .ref ge, .ref gb, .int 0, .int 0, .int 0, .int 0])), (gs, .inl (cS, 10, .inl (fun _ => 0))), (gb, .inl (cB, 10, .inl (fun _ => 0))), (ho, .inl (cJ, 1, .inr (.inl fo)))] [(cS, .int), (cB, .int), (cJ, .long)] sz) (va_Qi (fun (r : Int32) (_ : Unit) => r = 0) (fun _ t => ∃ f2 : Nat → Int64, f2 0 = 0 ∧ z_W D [(ho, .inl (cJ, 1, .inr (.inl f2)))] [(cJ, .long)] (va_A [(h0, .inr (6, [.ref hu, .ref hs, .ref hc, .ref hp, .ref hg, .int 0, .int 0, .int 0, .int td, .int sd])), (hg, .inr (3, [.ref go, .ref gs, .ref ge, .ref gb, .int 0, .int 0, .int 0, .int 0])), (gs, .inl (cS, 10, .inl (fun _ => 0))), (gb, .inl (cB, 10, .inl (fun _ => 0))), (ho, .inl (cJ, 1, .inr (.inl fo)))] sz) t) (va_A [(h0, .inr (6, [.ref hu, .ref hs, .ref hc, .ref hp, .ref hg, .int 0, .int 0, .int 0, .int td, .int sd])), (hg, .inr (3, [.ref go, .ref gs, .ref ge, .ref gb, .int 0, .int 0, .int 0, .int 0])), (gs, .inl (cS, 10, .inl (fun _ => 0))), (gb, .inl (cB, 10, .inl (fun _ => 0))), (ho, .inl (cJ, 1, .inr (.inl fo)))] sz)) (z_T (False) "none" D [(h0, .inr (6, [.ref hu, .ref hs, .ref hc, .ref hp, .ref hg, .int 0, .int 0, .int 0, .int td, .int sd])), (hg, .inr (3, [.ref go, .ref gs, .ref ge, .ref gb, .int 0, .int 0, .int 0, .int 0])), (gs, .inl (cS, 10, .inl (fun _ => 0))), (gb, .inl (cB, 10, .inl (fun _ => 0))), (ho, .inl (cJ, 1, .inr (.inl fo)))] [(cS, .int), (cB, .int), (cJ, .long)] sz) 0 0 (va_A [(h0, .inr (6, [.ref hu, .ref hs, .ref hc, .ref hp, .ref hg, .int 0, .int 0, .int 0, .int td, .int sd])), (hg, .inr (3, [.ref go, .ref gs, .ref ge, .ref gb, .int 0, .int 0, .int 0, .int 0])), (gs, .inl (cS, 10, .inl (fun _ => 0))), (gb, .inl (cB, 10, .inl (fun _ => 0))), (ho, .inl (cJ, 1, .inr (.inl fo)))] sz) := by
  refine vx_ofWH (cc := cL_shortest) (maxL := 3) (ret := (some .int)) (hh := [(0, 8, 11, 15)]) (by decide +kernel) rfl ?_
  intro p e s m args below meth c s₁ B hml hv
  obtain ⟨rfl, hsz, hP, hK, hD0, hE, hX0⟩ := hv
  have hx := B.exec
  have hb := B.bytes
  have hr := B.returns
  have hts := z_E.ts (args := [.ref h0, .ref ho].toArray) hE
  have hown : s.vm.findClass RL = some m.cls := findClass_of_methodNamed B.named
  have hlocks := B.notSynchronized
  have htb := vx_table (x := yL_shortest) B (atoms_spec (ws := [Cond.codeWith yL_shortest cL_shortest 3 (some .int) [(0, 8, 11, 15)]]) B.pre _ List.mem_cons_self)
  subst hsz
  have hD := hD0.self (sz := s.heap.size)
  generalize hAe : va_A [(h0, .inr (6, [.ref hu, .ref hs, .ref hc, .ref hp, .ref hg, .int 0, .int 0, .int 0, .int td, .int sd])), (hg, .inr (3, [.ref go, .ref gs, .ref ge, .ref gb, .int 0, .int 0, .int 0, .int 0])), (gs, .inl (cS, 10, .inl (fun _ => 0))), (gb, .inl (cB, 10, .inl (fun _ => 0))), (ho, .inl (cJ, 1, .inr (.inl fo)))] s.heap.size = A at hD hX0 ⊢
  have hX : z_X D A s s.heap := hX0
  have hA : ∀ q : Nat, s.heap.size ≤ q → A q := fun q h => by rw [← hAe]; exact Or.inr h
  have hS : va_S A s.heap s.heap [] := va_S.rf
  have hP : va_P D vwCl [(h0, .inr (6, [.ref hu, .ref hs, .ref hc, .ref hp, .ref hg, .int 0, .int 0, .int 0, .int td, .int sd])), (hg, .inr (3, [.ref go, .ref gs, .ref ge, .ref gb, .int 0, .int 0, .int 0, .int 0])), (gs, .inl (cS, 10, .inl (fun _ => 0))), (gb, .inl (cB, 10, .inl (fun _ => 0))), (ho, .inl (cJ, 1, .inr (.inl fo)))] s.heap := hP
  have hl := lv_entry ([.ref h0, .ref ho]) (n := 3) (Nat.le_of_ble_eq_true rfl)
  rw [lg_entry_eq]
  generalize (lg_sl ([.ref h0, .ref ho]) ++ List.replicate (3 - (lg_sl ([.ref h0, .ref ho])).length) Slot.unset).toArray = ls at hl ⊢
  have hl : lv_has ls 3 [(0, .ref h0), (1, .ref ho)] := hl
  skip
  refine lv_aload_n hx hb dL_shortest_0 rfl (lv_at hl 1 rfl) ?_
  refine lv_iconst (v := 0) hx hb dL_shortest_1 (by decide) ?_
  refine lv_aload_n hx hb dL_shortest_2 rfl (lv_at hl 0 rfl) ?_
  obtain ⟨hb_1, hc_1⟩ := z_call (wc := [(h0, .inr (6, [.ref hu, .ref hs, .ref hc, .ref hp, .ref hg, .int 0, .int 0, .int 0, .int td, .int sd])), (hg, .inr (3, [.ref go, .ref gs, .ref ge, .ref gb, .int 0, .int 0, .int 0, .int 0])), (gs, .inl (cS, 10, .inl (fun _ => 0))), (gb, .inl (cB, 10, .inl (fun _ => 0)))]) (tc := [(cS, .int), (cB, .int)]) ([.ref h0]) hP hK hD hS hA hE hX [0, 1, 2, 3] rfl rfl [0, 1] rfl
  have hF_1 := va_free (wc := [(h0, .inr (6, [.ref hu, .ref hs, .ref hc, .ref hp, .ref hg, .int 0, .int 0, .int 0, .int td, .int sd])), (hg, .inr (3, [.ref go, .ref gs, .ref ge, .ref gb, .int 0, .int 0, .int 0, .int 0])), (gs, .inl (cS, 10, .inl (fun _ => 0))), (gb, .inl (cB, 10, .inl (fun _ => 0)))]) hD hS hA [0, 1, 2, 3] rfl
  refine va_calli (va_runV (As := []) (rest := [.int 0, .ref ho]) ⟨hx, hb, hml, hown, hts⟩ (k_X4_shortest l D h0 hu hs hc hp hg td sd go gs ge gb cS cB _ ) (z_cV 0 hE zw_926 zw_927 zw_928 zw_91 zw_929 rfl rfl rfl (by decide +kernel) ⟨(Nat.le_of_ble_eq_true rfl), (Nat.le_of_ble_eq_true rfl)⟩) ⟨hb_1, va_recv hK hP (ci := 6) (q0 := 0) rfl rfl, hc_1⟩ rfl rfl hl.1 rfl (lv_room (Nat.le_of_ble_eq_true rfl)) dL_shortest_3 ⟨(Nat.le_of_ble_eq_true rfl), (Nat.le_of_ble_eq_true rfl)⟩) hS (fun q _ h => hF_1 q h) hF_1 (fun r_1 u_1 t_1 H1 locs ht_1 hvm_1 hw_1 hB_1 hz_1 hk_1 hS1 => ?_)
  obtain ⟨hP, hK, hD⟩ := z_back (wc := [(h0, .inr (6, [.ref hu, .ref hs, .ref hc, .ref hp, .ref hg, .int 0, .int 0, .int 0, .int td, .int sd])), (hg, .inr (3, [.ref go, .ref gs, .ref ge, .ref gb, .int 0, .int 0, .int 0, .int 0])), (gs, .inl (cS, 10, .inl (fun _ => 0))), (gb, .inl (cB, 10, .inl (fun _ => 0)))]) (wr := [(ho, .inl (cJ, 1, .inr (.inl fo)))]) (w1 := [(h0, .inr (6, [.ref hu, .ref hs, .ref hc, .ref hp, .ref hg, .int 0, .int 0, .int 0, .int td, .int sd]))]) (tr := [(cJ, .long)]) hP hK hD [0, 1, 2, 3] [4] rfl rfl rfl (by decide) ht_1 hvm_1 hk_1 hF_1 [2] rfl hB_1
  have hS := hS1
  have hP : va_P D vwCl [(ho, .inl (cJ, 1, .inr (.inl fo))), (h0, .inr (6, [.ref hu, .ref hs, .ref hc, .ref hp, .ref hg, .int 0, .int 0, .int 0, .int td, .int sd]))] H1 := hP
  have hD : va_D A [(ho, .inl (cJ, 1, .inr (.inl fo))), (h0, .inr (6, [.ref hu, .ref hs, .ref hc, .ref hp, .ref hg, .int 0, .int 0, .int 0, .int td, .int sd]))] := hD
  have hK : va_K D vwCl [(cJ, .long)] s := hK
  clear hS1
  obtain rfl : r_1 = 0 := hw_1
  refine lv_i2l (v := 0) hx hb dL_shortest_6 (by decide) ?_
  refine va_last hx hb hK hP hD hS 0 0 rfl rfl (i := 0) (by unfold vp_in; decide) dL_shortest_7 (fun H locs hP hD hS => ?_)
  have hP : va_P D vwCl [(ho, .inl (cJ, 1, .inr (.inl (vp_updL fo (0 : Int32).toNatClampNeg 0)))), (h0, .inr (6, [.ref hu, .ref hs, .ref hc, .ref hp, .ref hg, .int 0, .int 0, .int 0, .int td, .int sd]))] H := hP
  have hD : va_D A [(ho, .inl (cJ, 1, .inr (.inl (vp_updL fo (0 : Int32).toNatClampNeg 0)))), (h0, .inr (6, [.ref hu, .ref hs, .ref hc, .ref hp, .ref hg, .int 0, .int 0, .int 0, .int td, .int sd]))] := hD
  refine lv_goto (tgt := 14) hx hb dL_shortest_8 (by decide) ?_
  refine lv_iconst (v := 0) hx hb dL_shortest_14 (by decide) ?_
  exact vx_ret (W.iret (v := 0) hx hb hr (fun t ht hW => ⟨⟨0, (), rfl, rfl, ⟨vp_updL fo (0 : Int32).toNatClampNeg 0, rfl, z_end hP hK hD [0] rfl rfl [0] rfl ht hW.alike⟩⟩, hS.F ht⟩) hS.2.2 dL_shortest_15)
