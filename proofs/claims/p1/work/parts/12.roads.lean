theorem dL_addWall_0 : decode cL_addWall 0 = .ok (.aload_n 3, 1) := by decide +kernel
theorem dL_addWall_1 : decode cL_addWall 1 = .ok (.iconst 0, 1) := by decide +kernel
theorem dL_addWall_2 : decode cL_addWall 2 = .ok (.aload_n 0, 1) := by decide +kernel
theorem dL_addWall_3 : decode cL_addWall 3 = .ok (.iload_n 1, 1) := by decide +kernel
theorem dL_addWall_4 : decode cL_addWall 4 = .ok (.iload_n 2, 1) := by decide +kernel
theorem dL_addWall_5 : decode cL_addWall 5 = .ok (.invokevirtual 19, 3) := by decide +kernel
theorem zw_521 : Cond.methodLink RL 19 yX4_addWall ∈ z_Ts := z_m 521 (by decide +kernel) (by decide +kernel)
theorem zw_522 : Cond.instanceMethod yX4_addWall ∈ z_Ts := z_m 522 (by decide +kernel) (by decide +kernel)
theorem zw_523 : Cond.selects RX4 yX4_addWall yX4_addWall ∈ z_Ts := z_m 523 (by decide +kernel) (by decide +kernel)
theorem zw_524 : Cond.code yX4_addWall cX4_addWall 3 (some .int) ∈ z_Ts := z_m 524 (by decide +kernel) (by decide +kernel)
theorem zw_520 : Cond.classLink RL 23 "java/lang/IndexOutOfBoundsException" ∈ z_Ts := z_m 520 (by decide +kernel) (by decide +kernel)
theorem zw_531 : Cond.castable "java/lang/IndexOutOfBoundsException" "java/lang/IndexOutOfBoundsException" ∈ z_Ts := z_m 531 (by decide +kernel) (by decide +kernel)
theorem dL_addWall_13 : decode cL_addWall 13 = .ok (.astore 4, 2) := by decide +kernel
theorem dL_addWall_15 : decode cL_addWall 15 = .ok (.iconst 1, 1) := by decide +kernel
theorem dL_addWall_16 : decode cL_addWall 16 = .ok (.ireturn, 1) := by decide +kernel
set_option maxHeartbeats 4000000 in
set_option maxRecDepth 100000 in
theorem f_L_addWall (l : Launch) (hst : l.stackTraces = false) (D : va_G) (h0 : Nat) (hu : Nat) (hs : Nat) (hc : Nat) (hp : Nat) (hg : Nat) (td : Int32) (sd : Int32) (a0 : Int32) (a1 : Int32) (ho : Nat) (fo : Nat → Int64) (cJ : ClassId) (sz : Nat)  : vx_Met l yL_addWall [Cond.codeWith yL_addWall cL_addWall 5 (some .int) [(0, 10, 13, 23), (0, 10, 17, 13), (0, 10, 21, 15)]] ({ frames := 8, cells := 1, slots := 6, locals := 170 }) (z_Pc D [.ref h0, .int a0, .int a1, .ref ho] [(h0, .inr (6, [.ref hu, .ref hs, .ref hc, .ref hp, .ref hg, .int 0, .int 0, .int 0, .int td, .int sd])), (ho, .inl (cJ, 1, .inr (.inl fo)))] [(cJ, .long)] sz) (va_Qi (fun (r : Int32) (_ : Unit) => r = 1) (fun _ t => z_W D [(h0, .inr (6, [.ref hu, .ref hs, .ref hc, .ref hp, .ref hg, .int 0, .int 0, .int 0, .int td, .int sd])), (ho, .inl (cJ, 1, .inr (.inl fo)))] [(cJ, .long)] (va_A [(h0, .inr (6, [.ref hu, .ref hs, .ref hc, .ref hp, .ref hg, .int 0, .int 0, .int 0, .int td, .int sd])), (ho, .inl (cJ, 1, .inr (.inl fo)))] sz) t) (va_A [(h0, .inr (6, [.ref hu, .ref hs, .ref hc, .ref hp, .ref hg, .int 0, .int 0, .int 0, .int td, .int sd])), (ho, .inl (cJ, 1, .inr (.inl fo)))] sz)) (z_T (False) "none" D [(h0, .inr (6, [.ref hu, .ref hs, .ref hc, .ref hp, .ref hg, .int 0, .int 0, .int 0, .int td, .int sd])), (ho, .inl (cJ, 1, .inr (.inl fo)))] [(cJ, .long)] sz) 1 6 (va_A [(h0, .inr (6, [.ref hu, .ref hs, .ref hc, .ref hp, .ref hg, .int 0, .int 0, .int 0, .int td, .int sd])), (ho, .inl (cJ, 1, .inr (.inl fo)))] sz) := by
  refine vx_ofWH (cc := cL_addWall) (maxL := 5) (ret := (some .int)) (hh := [(0, 10, 13, 23), (0, 10, 17, 13), (0, 10, 21, 15)]) (by decide +kernel) rfl ?_
  intro p e s m args below meth c s₁ B hml hv
  obtain ⟨rfl, hsz, hP, hK, hD0, hE, hX0⟩ := hv
  have hx := B.exec
  have hb := B.bytes
  have hr := B.returns
  have hts := z_E.ts (args := [.ref h0, .int a0, .int a1, .ref ho].toArray) hE
  have hown : s.vm.findClass RL = some m.cls := findClass_of_methodNamed B.named
  have hlocks := B.notSynchronized
  have htb := vx_table (x := yL_addWall) B (atoms_spec (ws := [Cond.codeWith yL_addWall cL_addWall 5 (some .int) [(0, 10, 13, 23), (0, 10, 17, 13), (0, 10, 21, 15)]]) B.pre _ List.mem_cons_self)
  subst hsz
  have hD := hD0.self (sz := s.heap.size)
  generalize hAe : va_A [(h0, .inr (6, [.ref hu, .ref hs, .ref hc, .ref hp, .ref hg, .int 0, .int 0, .int 0, .int td, .int sd])), (ho, .inl (cJ, 1, .inr (.inl fo)))] s.heap.size = A at hD hX0 ⊢
  have hX : z_X D A s s.heap := hX0
  have hA : ∀ q : Nat, s.heap.size ≤ q → A q := fun q h => by rw [← hAe]; exact Or.inr h
  have hS : va_S A s.heap s.heap [] := va_S.rf
  have hP : va_P D vwCl [(h0, .inr (6, [.ref hu, .ref hs, .ref hc, .ref hp, .ref hg, .int 0, .int 0, .int 0, .int td, .int sd])), (ho, .inl (cJ, 1, .inr (.inl fo)))] s.heap := hP
  have hl := lv_entry ([.ref h0, .int a0, .int a1, .ref ho]) (n := 5) (Nat.le_of_ble_eq_true rfl)
  rw [lg_entry_eq]
  generalize (lg_sl ([.ref h0, .int a0, .int a1, .ref ho]) ++ List.replicate (5 - (lg_sl ([.ref h0, .int a0, .int a1, .ref ho])).length) Slot.unset).toArray = ls at hl ⊢
  have hl : lv_has ls 5 [(0, .ref h0), (1, .int a0), (2, .int a1), (3, .ref ho)] := hl
  skip
  refine lv_aload_n hx hb dL_addWall_0 rfl (lv_at hl 3 rfl) ?_
  refine lv_iconst (v := 0) hx hb dL_addWall_1 (by decide) ?_
  refine lv_aload_n hx hb dL_addWall_2 rfl (lv_at hl 0 rfl) ?_
  refine lv_iload_n hx hb dL_addWall_3 rfl (lv_at hl 1 rfl) ?_
  refine lv_iload_n hx hb dL_addWall_4 rfl (lv_at hl 2 rfl) ?_
  obtain ⟨hb_1, hc_1⟩ := z_call (wc := [(h0, .inr (6, [.ref hu, .ref hs, .ref hc, .ref hp, .ref hg, .int 0, .int 0, .int 0, .int td, .int sd]))]) (tc := []) ([.ref h0, .int a0, .int a1]) hP hK hD hS hA hE hX [0] rfl rfl [] rfl
  have hF_1 := va_free (wc := [(h0, .inr (6, [.ref hu, .ref hs, .ref hc, .ref hp, .ref hg, .int 0, .int 0, .int 0, .int td, .int sd]))]) hD hS hA [0] rfl
  refine vx_calli (vx_runV (As := [.int a0, .int a1]) (rest := [.int 0, .ref ho]) ⟨hx, hb, hml, hown, hts⟩ (f_X4_addWall l hst D h0 hu hs hc hp hg td sd a0 a1 _ ) (z_cV 2 hE zw_521 zw_522 zw_523 zw_91 zw_524 rfl rfl rfl (by decide +kernel) ⟨(Nat.le_of_ble_eq_true rfl), (Nat.le_of_ble_eq_true rfl)⟩) ⟨hb_1, va_recv hK hP (ci := 6) (q0 := 0) rfl rfl, hc_1⟩ rfl rfl hl.1 rfl (lv_room (Nat.le_of_ble_eq_true rfl)) dL_addWall_5 ⟨(Nat.le_of_ble_eq_true rfl), (Nat.le_of_ble_eq_true rfl)⟩) hS (fun q _ h => hF_1 q h) hF_1 (fun q _ h => hF_1 q h) (fun E_1 ce_1 q9_1 u_1 t_1 H1 locs ht_1 hvm_1 hw_1 hB_1 hz_1 hk_1 hS1 hce_1 hcv_1 hcl_1 => ?_) (fun r_1 u_1 t_1 H1 locs ht_1 hvm_1 hw_1 hB_1 hz_1 hk_1 hS1 => ?_)
  · obtain ⟨rfl, hB_1⟩ := hB_1
    obtain ⟨hP, hK, hD⟩ := z_back (wc := [(h0, .inr (6, [.ref hu, .ref hs, .ref hc, .ref hp, .ref hg, .int 0, .int 0, .int 0, .int td, .int sd]))]) (wr := [(ho, .inl (cJ, 1, .inr (.inl fo)))]) (w1 := [(h0, .inr (6, [.ref hu, .ref hs, .ref hc, .ref hp, .ref hg, .int 0, .int 0, .int 0, .int td, .int sd]))]) (tr := [(cJ, .long)]) hP hK hD [0] [1] rfl rfl rfl (by decide) ht_1 hvm_1 hk_1 hF_1 [0] rfl hB_1
    have hS := hS1
    have hP : va_P D vwCl [(ho, .inl (cJ, 1, .inr (.inl fo))), (h0, .inr (6, [.ref hu, .ref hs, .ref hc, .ref hp, .ref hg, .int 0, .int 0, .int 0, .int td, .int sd]))] H1 := hP
    have hD : va_D A [(ho, .inl (cJ, 1, .inr (.inl fo))), (h0, .inr (6, [.ref hu, .ref hs, .ref hc, .ref hp, .ref hg, .int 0, .int 0, .int 0, .int td, .int sd]))] := hD
    have hK : va_K D vwCl [(cJ, .long)] s := hK
    clear hS1
    refine vx_catch (name := "java/lang/IndexOutOfBoundsException") hown [] ⟨0, 10, 13, 23⟩ [⟨0, 10, 17, 13⟩, ⟨0, 10, 21, 15⟩] (htb.trans rfl) (fun z hz => nomatch hz) (by decide) (by decide) (hts _ zw_520) (hts _ zw_531) hce_1 hcv_1 hcl_1 ?_
    refine lv_astore (lv' := [(4, .ref q9_1), (0, .ref h0), (1, .int a0), (2, .int a1), (3, .ref ho)]) hx hb dL_addWall_13 hl (by decide) rfl (fun ls hl => ?_)
    refine lv_iconst (v := 1) hx hb dL_addWall_15 (by decide) ?_
    exact vx_ret (W.iret (v := 1) hx hb hr (fun t ht hW => ⟨⟨1, (), rfl, rfl, z_end hP hK hD [1, 0] rfl rfl [0] rfl ht hW.alike⟩, hS.F ht⟩) hS.2.2 dL_addWall_16)
  · exact hw_1.elim
theorem dL_plan_0 : decode cL_plan 0 = .ok (.aload_n 3, 1) := by decide +kernel
theorem dL_plan_1 : decode cL_plan 1 = .ok (.iconst 0, 1) := by decide +kernel
theorem dL_plan_2 : decode cL_plan 2 = .ok (.aload_n 0, 1) := by decide +kernel
theorem dL_plan_3 : decode cL_plan 3 = .ok (.iload_n 1, 1) := by decide +kernel
theorem dL_plan_4 : decode cL_plan 4 = .ok (.iload_n 2, 1) := by decide +kernel
theorem dL_plan_5 : decode cL_plan 5 = .ok (.invokevirtual 25, 3) := by decide +kernel
theorem zw_554 : Cond.methodLink RL 25 yX4_plan ∈ z_Ts := z_m 554 (by decide +kernel) (by decide +kernel)
theorem zw_555 : Cond.instanceMethod yX4_plan ∈ z_Ts := z_m 555 (by decide +kernel) (by decide +kernel)
theorem zw_556 : Cond.selects RX4 yX4_plan yX4_plan ∈ z_Ts := z_m 556 (by decide +kernel) (by decide +kernel)
theorem zw_557 : Cond.code yX4_plan cX4_plan 3 (some .int) ∈ z_Ts := z_m 557 (by decide +kernel) (by decide +kernel)
theorem dL_plan_13 : decode cL_plan 13 = .ok (.astore 4, 2) := by decide +kernel
theorem dL_plan_15 : decode cL_plan 15 = .ok (.iconst 1, 1) := by decide +kernel
theorem dL_plan_16 : decode cL_plan 16 = .ok (.ireturn, 1) := by decide +kernel
set_option maxHeartbeats 4000000 in
set_option maxRecDepth 100000 in
theorem f_L_plan (l : Launch) (hst : l.stackTraces = false) (D : va_G) (h0 : Nat) (hu : Nat) (hs : Nat) (hc : Nat) (hp : Nat) (hg : Nat) (td : Int32) (sd : Int32) (a0 : Int32) (a1 : Int32) (ho : Nat) (fo : Nat → Int64) (cJ : ClassId) (sz : Nat)  : vx_Met l yL_plan [Cond.codeWith yL_plan cL_plan 5 (some .int) [(0, 10, 13, 23), (0, 10, 17, 13), (0, 10, 21, 15)]] ({ frames := 8, cells := 1, slots := 6, locals := 170 }) (z_Pc D [.ref h0, .int a0, .int a1, .ref ho] [(h0, .inr (6, [.ref hu, .ref hs, .ref hc, .ref hp, .ref hg, .int 0, .int 0, .int 0, .int td, .int sd])), (ho, .inl (cJ, 1, .inr (.inl fo)))] [(cJ, .long)] sz) (va_Qi (fun (r : Int32) (_ : Unit) => r = 1) (fun _ t => z_W D [(h0, .inr (6, [.ref hu, .ref hs, .ref hc, .ref hp, .ref hg, .int 0, .int 0, .int 0, .int td, .int sd])), (ho, .inl (cJ, 1, .inr (.inl fo)))] [(cJ, .long)] (va_A [(h0, .inr (6, [.ref hu, .ref hs, .ref hc, .ref hp, .ref hg, .int 0, .int 0, .int 0, .int td, .int sd])), (ho, .inl (cJ, 1, .inr (.inl fo)))] sz) t) (va_A [(h0, .inr (6, [.ref hu, .ref hs, .ref hc, .ref hp, .ref hg, .int 0, .int 0, .int 0, .int td, .int sd])), (ho, .inl (cJ, 1, .inr (.inl fo)))] sz)) (z_T (False) "none" D [(h0, .inr (6, [.ref hu, .ref hs, .ref hc, .ref hp, .ref hg, .int 0, .int 0, .int 0, .int td, .int sd])), (ho, .inl (cJ, 1, .inr (.inl fo)))] [(cJ, .long)] sz) 1 6 (va_A [(h0, .inr (6, [.ref hu, .ref hs, .ref hc, .ref hp, .ref hg, .int 0, .int 0, .int 0, .int td, .int sd])), (ho, .inl (cJ, 1, .inr (.inl fo)))] sz) := by
  refine vx_ofWH (cc := cL_plan) (maxL := 5) (ret := (some .int)) (hh := [(0, 10, 13, 23), (0, 10, 17, 13), (0, 10, 21, 15)]) (by decide +kernel) rfl ?_
  intro p e s m args below meth c s₁ B hml hv
  obtain ⟨rfl, hsz, hP, hK, hD0, hE, hX0⟩ := hv
  have hx := B.exec
  have hb := B.bytes
  have hr := B.returns
  have hts := z_E.ts (args := [.ref h0, .int a0, .int a1, .ref ho].toArray) hE
  have hown : s.vm.findClass RL = some m.cls := findClass_of_methodNamed B.named
  have hlocks := B.notSynchronized
  have htb := vx_table (x := yL_plan) B (atoms_spec (ws := [Cond.codeWith yL_plan cL_plan 5 (some .int) [(0, 10, 13, 23), (0, 10, 17, 13), (0, 10, 21, 15)]]) B.pre _ List.mem_cons_self)
  subst hsz
  have hD := hD0.self (sz := s.heap.size)
  generalize hAe : va_A [(h0, .inr (6, [.ref hu, .ref hs, .ref hc, .ref hp, .ref hg, .int 0, .int 0, .int 0, .int td, .int sd])), (ho, .inl (cJ, 1, .inr (.inl fo)))] s.heap.size = A at hD hX0 ⊢
  have hX : z_X D A s s.heap := hX0
  have hA : ∀ q : Nat, s.heap.size ≤ q → A q := fun q h => by rw [← hAe]; exact Or.inr h
  have hS : va_S A s.heap s.heap [] := va_S.rf
  have hP : va_P D vwCl [(h0, .inr (6, [.ref hu, .ref hs, .ref hc, .ref hp, .ref hg, .int 0, .int 0, .int 0, .int td, .int sd])), (ho, .inl (cJ, 1, .inr (.inl fo)))] s.heap := hP
  have hl := lv_entry ([.ref h0, .int a0, .int a1, .ref ho]) (n := 5) (Nat.le_of_ble_eq_true rfl)
  rw [lg_entry_eq]
  generalize (lg_sl ([.ref h0, .int a0, .int a1, .ref ho]) ++ List.replicate (5 - (lg_sl ([.ref h0, .int a0, .int a1, .ref ho])).length) Slot.unset).toArray = ls at hl ⊢
  have hl : lv_has ls 5 [(0, .ref h0), (1, .int a0), (2, .int a1), (3, .ref ho)] := hl
  skip
  refine lv_aload_n hx hb dL_plan_0 rfl (lv_at hl 3 rfl) ?_
  refine lv_iconst (v := 0) hx hb dL_plan_1 (by decide) ?_
  refine lv_aload_n hx hb dL_plan_2 rfl (lv_at hl 0 rfl) ?_
  refine lv_iload_n hx hb dL_plan_3 rfl (lv_at hl 1 rfl) ?_
  refine lv_iload_n hx hb dL_plan_4 rfl (lv_at hl 2 rfl) ?_
  obtain ⟨hb_1, hc_1⟩ := z_call (wc := [(h0, .inr (6, [.ref hu, .ref hs, .ref hc, .ref hp, .ref hg, .int 0, .int 0, .int 0, .int td, .int sd]))]) (tc := []) ([.ref h0, .int a0, .int a1]) hP hK hD hS hA hE hX [0] rfl rfl [] rfl
  have hF_1 := va_free (wc := [(h0, .inr (6, [.ref hu, .ref hs, .ref hc, .ref hp, .ref hg, .int 0, .int 0, .int 0, .int td, .int sd]))]) hD hS hA [0] rfl
  refine vx_calli (vx_runV (As := [.int a0, .int a1]) (rest := [.int 0, .ref ho]) ⟨hx, hb, hml, hown, hts⟩ (f_X4_plan l hst D h0 hu hs hc hp hg td sd a0 a1 _ ) (z_cV 2 hE zw_554 zw_555 zw_556 zw_91 zw_557 rfl rfl rfl (by decide +kernel) ⟨(Nat.le_of_ble_eq_true rfl), (Nat.le_of_ble_eq_true rfl)⟩) ⟨hb_1, va_recv hK hP (ci := 6) (q0 := 0) rfl rfl, hc_1⟩ rfl rfl hl.1 rfl (lv_room (Nat.le_of_ble_eq_true rfl)) dL_plan_5 ⟨(Nat.le_of_ble_eq_true rfl), (Nat.le_of_ble_eq_true rfl)⟩) hS (fun q _ h => hF_1 q h) hF_1 (fun q _ h => hF_1 q h) (fun E_1 ce_1 q9_1 u_1 t_1 H1 locs ht_1 hvm_1 hw_1 hB_1 hz_1 hk_1 hS1 hce_1 hcv_1 hcl_1 => ?_) (fun r_1 u_1 t_1 H1 locs ht_1 hvm_1 hw_1 hB_1 hz_1 hk_1 hS1 => ?_)
  · obtain ⟨rfl, hB_1⟩ := hB_1
    obtain ⟨hP, hK, hD⟩ := z_back (wc := [(h0, .inr (6, [.ref hu, .ref hs, .ref hc, .ref hp, .ref hg, .int 0, .int 0, .int 0, .int td, .int sd]))]) (wr := [(ho, .inl (cJ, 1, .inr (.inl fo)))]) (w1 := [(h0, .inr (6, [.ref hu, .ref hs, .ref hc, .ref hp, .ref hg, .int 0, .int 0, .int 0, .int td, .int sd]))]) (tr := [(cJ, .long)]) hP hK hD [0] [1] rfl rfl rfl (by decide) ht_1 hvm_1 hk_1 hF_1 [0] rfl hB_1
    have hS := hS1
    have hP : va_P D vwCl [(ho, .inl (cJ, 1, .inr (.inl fo))), (h0, .inr (6, [.ref hu, .ref hs, .ref hc, .ref hp, .ref hg, .int 0, .int 0, .int 0, .int td, .int sd]))] H1 := hP
    have hD : va_D A [(ho, .inl (cJ, 1, .inr (.inl fo))), (h0, .inr (6, [.ref hu, .ref hs, .ref hc, .ref hp, .ref hg, .int 0, .int 0, .int 0, .int td, .int sd]))] := hD
    have hK : va_K D vwCl [(cJ, .long)] s := hK
    clear hS1
    refine vx_catch (name := "java/lang/IndexOutOfBoundsException") hown [] ⟨0, 10, 13, 23⟩ [⟨0, 10, 17, 13⟩, ⟨0, 10, 21, 15⟩] (htb.trans rfl) (fun z hz => nomatch hz) (by decide) (by decide) (hts _ zw_520) (hts _ zw_531) hce_1 hcv_1 hcl_1 ?_
    refine lv_astore (lv' := [(4, .ref q9_1), (0, .ref h0), (1, .int a0), (2, .int a1), (3, .ref ho)]) hx hb dL_plan_13 hl (by decide) rfl (fun ls hl => ?_)
    refine lv_iconst (v := 1) hx hb dL_plan_15 (by decide) ?_
    exact vx_ret (W.iret (v := 1) hx hb hr (fun t ht hW => ⟨⟨1, (), rfl, rfl, z_end hP hK hD [1, 0] rfl rfl [0] rfl ht hW.alike⟩, hS.F ht⟩) hS.2.2 dL_plan_16)
  · exact hw_1.elim
theorem dL_rest_0 : decode cL_rest 0 = .ok (.aload_n 3, 1) := by decide +kernel
theorem dL_rest_1 : decode cL_rest 1 = .ok (.iconst 0, 1) := by decide +kernel
theorem dL_rest_2 : decode cL_rest 2 = .ok (.aload_n 0, 1) := by decide +kernel
theorem dL_rest_3 : decode cL_rest 3 = .ok (.iload_n 1, 1) := by decide +kernel
theorem dL_rest_4 : decode cL_rest 4 = .ok (.iload_n 2, 1) := by decide +kernel
theorem dL_rest_5 : decode cL_rest 5 = .ok (.invokevirtual 28, 3) := by decide +kernel
theorem zw_566 : Cond.methodLink RL 28 yX4_rest ∈ z_Ts := z_m 566 (by decide +kernel) (by decide +kernel)
theorem zw_567 : Cond.instanceMethod yX4_rest ∈ z_Ts := z_m 567 (by decide +kernel) (by decide +kernel)
theorem zw_568 : Cond.selects RX4 yX4_rest yX4_rest ∈ z_Ts := z_m 568 (by decide +kernel) (by decide +kernel)
theorem zw_569 : Cond.code yX4_rest cX4_rest 4 (some .boolean) ∈ z_Ts := z_m 569 (by decide +kernel) (by decide +kernel)
theorem dL_rest_20 : decode cL_rest 20 = .ok (.astore 4, 2) := by decide +kernel
theorem dL_rest_22 : decode cL_rest 22 = .ok (.iconst 1, 1) := by decide +kernel
theorem dL_rest_23 : decode cL_rest 23 = .ok (.ireturn, 1) := by decide +kernel
set_option maxHeartbeats 4000000 in
set_option maxRecDepth 100000 in
theorem f_L_rest (l : Launch) (hst : l.stackTraces = false) (D : va_G) (h0 : Nat) (hu : Nat) (hs : Nat) (hc : Nat) (hp : Nat) (hg : Nat) (td : Int32) (sd : Int32) (a0 : Int32) (a1 : Int32) (ho : Nat) (fo : Nat → Int64) (cJ : ClassId) (sz : Nat)  : vx_Met l yL_rest [Cond.codeWith yL_rest cL_rest 5 (some .int) [(0, 17, 20, 23), (0, 17, 24, 15), (0, 17, 28, 13)]] ({ frames := 8, cells := 1, slots := 6, locals := 170 }) (z_Pc D [.ref h0, .int a0, .int a1, .ref ho] [(h0, .inr (6, [.ref hu, .ref hs, .ref hc, .ref hp, .ref hg, .int 0, .int 0, .int 0, .int td, .int sd])), (ho, .inl (cJ, 1, .inr (.inl fo)))] [(cJ, .long)] sz) (va_Qi (fun (r : Int32) (_ : Unit) => r = 1) (fun _ t => z_W D [(h0, .inr (6, [.ref hu, .ref hs, .ref hc, .ref hp, .ref hg, .int 0, .int 0, .int 0, .int td, .int sd])), (ho, .inl (cJ, 1, .inr (.inl fo)))] [(cJ, .long)] (va_A [(h0, .inr (6, [.ref hu, .ref hs, .ref hc, .ref hp, .ref hg, .int 0, .int 0, .int 0, .int td, .int sd])), (ho, .inl (cJ, 1, .inr (.inl fo)))] sz) t) (va_A [(h0, .inr (6, [.ref hu, .ref hs, .ref hc, .ref hp, .ref hg, .int 0, .int 0, .int 0, .int td, .int sd])), (ho, .inl (cJ, 1, .inr (.inl fo)))] sz)) (z_T (False) "none" D [(h0, .inr (6, [.ref hu, .ref hs, .ref hc, .ref hp, .ref hg, .int 0, .int 0, .int 0, .int td, .int sd])), (ho, .inl (cJ, 1, .inr (.inl fo)))] [(cJ, .long)] sz) 1 6 (va_A [(h0, .inr (6, [.ref hu, .ref hs, .ref hc, .ref hp, .ref hg, .int 0, .int 0, .int 0, .int td, .int sd])), (ho, .inl (cJ, 1, .inr (.inl fo)))] sz) := by
  refine vx_ofWH (cc := cL_rest) (maxL := 5) (ret := (some .int)) (hh := [(0, 17, 20, 23), (0, 17, 24, 15), (0, 17, 28, 13)]) (by decide +kernel) rfl ?_
  intro p e s m args below meth c s₁ B hml hv
  obtain ⟨rfl, hsz, hP, hK, hD0, hE, hX0⟩ := hv
  have hx := B.exec
  have hb := B.bytes
  have hr := B.returns
  have hts := z_E.ts (args := [.ref h0, .int a0, .int a1, .ref ho].toArray) hE
  have hown : s.vm.findClass RL = some m.cls := findClass_of_methodNamed B.named
  have hlocks := B.notSynchronized
  have htb := vx_table (x := yL_rest) B (atoms_spec (ws := [Cond.codeWith yL_rest cL_rest 5 (some .int) [(0, 17, 20, 23), (0, 17, 24, 15), (0, 17, 28, 13)]]) B.pre _ List.mem_cons_self)
  subst hsz
  have hD := hD0.self (sz := s.heap.size)
  generalize hAe : va_A [(h0, .inr (6, [.ref hu, .ref hs, .ref hc, .ref hp, .ref hg, .int 0, .int 0, .int 0, .int td, .int sd])), (ho, .inl (cJ, 1, .inr (.inl fo)))] s.heap.size = A at hD hX0 ⊢
  have hX : z_X D A s s.heap := hX0
  have hA : ∀ q : Nat, s.heap.size ≤ q → A q := fun q h => by rw [← hAe]; exact Or.inr h
  have hS : va_S A s.heap s.heap [] := va_S.rf
  have hP : va_P D vwCl [(h0, .inr (6, [.ref hu, .ref hs, .ref hc, .ref hp, .ref hg, .int 0, .int 0, .int 0, .int td, .int sd])), (ho, .inl (cJ, 1, .inr (.inl fo)))] s.heap := hP
  have hl := lv_entry ([.ref h0, .int a0, .int a1, .ref ho]) (n := 5) (Nat.le_of_ble_eq_true rfl)
  rw [lg_entry_eq]
  generalize (lg_sl ([.ref h0, .int a0, .int a1, .ref ho]) ++ List.replicate (5 - (lg_sl ([.ref h0, .int a0, .int a1, .ref ho])).length) Slot.unset).toArray = ls at hl ⊢
  have hl : lv_has ls 5 [(0, .ref h0), (1, .int a0), (2, .int a1), (3, .ref ho)] := hl
  skip
  refine lv_aload_n hx hb dL_rest_0 rfl (lv_at hl 3 rfl) ?_
  refine lv_iconst (v := 0) hx hb dL_rest_1 (by decide) ?_
  refine lv_aload_n hx hb dL_rest_2 rfl (lv_at hl 0 rfl) ?_
  refine lv_iload_n hx hb dL_rest_3 rfl (lv_at hl 1 rfl) ?_
  refine lv_iload_n hx hb dL_rest_4 rfl (lv_at hl 2 rfl) ?_
  obtain ⟨hb_1, hc_1⟩ := z_call (wc := [(h0, .inr (6, [.ref hu, .ref hs, .ref hc, .ref hp, .ref hg, .int 0, .int 0, .int 0, .int td, .int sd]))]) (tc := []) ([.ref h0, .int a0, .int a1]) hP hK hD hS hA hE hX [0] rfl rfl [] rfl
  have hF_1 := va_free (wc := [(h0, .inr (6, [.ref hu, .ref hs, .ref hc, .ref hp, .ref hg, .int 0, .int 0, .int 0, .int td, .int sd]))]) hD hS hA [0] rfl
  refine vx_calli (vx_runV (As := [.int a0, .int a1]) (rest := [.int 0, .ref ho]) ⟨hx, hb, hml, hown, hts⟩ (f_X4_rest l hst D h0 hu hs hc hp hg td sd a0 a1 _ ) (z_cV 2 hE zw_566 zw_567 zw_568 zw_91 zw_569 rfl rfl rfl (by decide +kernel) ⟨(Nat.le_of_ble_eq_true rfl), (Nat.le_of_ble_eq_true rfl)⟩) ⟨hb_1, va_recv hK hP (ci := 6) (q0 := 0) rfl rfl, hc_1⟩ rfl rfl hl.1 rfl (lv_room (Nat.le_of_ble_eq_true rfl)) dL_rest_5 ⟨(Nat.le_of_ble_eq_true rfl), (Nat.le_of_ble_eq_true rfl)⟩) hS (fun q _ h => hF_1 q h) hF_1 (fun q _ h => hF_1 q h) (fun E_1 ce_1 q9_1 u_1 t_1 H1 locs ht_1 hvm_1 hw_1 hB_1 hz_1 hk_1 hS1 hce_1 hcv_1 hcl_1 => ?_) (fun r_1 u_1 t_1 H1 locs ht_1 hvm_1 hw_1 hB_1 hz_1 hk_1 hS1 => ?_)
  · obtain ⟨rfl, hB_1⟩ := hB_1
    obtain ⟨hP, hK, hD⟩ := z_back (wc := [(h0, .inr (6, [.ref hu, .ref hs, .ref hc, .ref hp, .ref hg, .int 0, .int 0, .int 0, .int td, .int sd]))]) (wr := [(ho, .inl (cJ, 1, .inr (.inl fo)))]) (w1 := [(h0, .inr (6, [.ref hu, .ref hs, .ref hc, .ref hp, .ref hg, .int 0, .int 0, .int 0, .int td, .int sd]))]) (tr := [(cJ, .long)]) hP hK hD [0] [1] rfl rfl rfl (by decide) ht_1 hvm_1 hk_1 hF_1 [0] rfl hB_1
    have hS := hS1
    have hP : va_P D vwCl [(ho, .inl (cJ, 1, .inr (.inl fo))), (h0, .inr (6, [.ref hu, .ref hs, .ref hc, .ref hp, .ref hg, .int 0, .int 0, .int 0, .int td, .int sd]))] H1 := hP
    have hD : va_D A [(ho, .inl (cJ, 1, .inr (.inl fo))), (h0, .inr (6, [.ref hu, .ref hs, .ref hc, .ref hp, .ref hg, .int 0, .int 0, .int 0, .int td, .int sd]))] := hD
    have hK : va_K D vwCl [(cJ, .long)] s := hK
    clear hS1
    refine vx_catch (name := "java/lang/IndexOutOfBoundsException") hown [] ⟨0, 17, 20, 23⟩ [⟨0, 17, 24, 15⟩, ⟨0, 17, 28, 13⟩] (htb.trans rfl) (fun z hz => nomatch hz) (by decide) (by decide) (hts _ zw_520) (hts _ zw_531) hce_1 hcv_1 hcl_1 ?_
    refine lv_astore (lv' := [(4, .ref q9_1), (0, .ref h0), (1, .int a0), (2, .int a1), (3, .ref ho)]) hx hb dL_rest_20 hl (by decide) rfl (fun ls hl => ?_)
    refine lv_iconst (v := 1) hx hb dL_rest_22 (by decide) ?_
    exact vx_ret (W.iret (v := 1) hx hb hr (fun t ht hW => ⟨⟨1, (), rfl, rfl, z_end hP hK hD [1, 0] rfl rfl [0] rfl ht hW.alike⟩, hS.F ht⟩) hS.2.2 dL_rest_23)
  · exact hw_1.elim
theorem dL_notice_0 : decode cL_notice 0 = .ok (.aload_n 3, 1) := by decide +kernel
theorem dL_notice_1 : decode cL_notice 1 = .ok (.iconst 0, 1) := by decide +kernel
theorem dL_notice_2 : decode cL_notice 2 = .ok (.aload_n 0, 1) := by decide +kernel
theorem dL_notice_3 : decode cL_notice 3 = .ok (.iload_n 1, 1) := by decide +kernel
theorem dL_notice_4 : decode cL_notice 4 = .ok (.iload_n 2, 1) := by decide +kernel
theorem dL_notice_5 : decode cL_notice 5 = .ok (.invokevirtual 32, 3) := by decide +kernel
theorem zw_583 : Cond.methodLink RL 32 yX4_notice ∈ z_Ts := z_m 583 (by decide +kernel) (by decide +kernel)
theorem zw_584 : Cond.instanceMethod yX4_notice ∈ z_Ts := z_m 584 (by decide +kernel) (by decide +kernel)
theorem zw_585 : Cond.selects RX4 yX4_notice yX4_notice ∈ z_Ts := z_m 585 (by decide +kernel) (by decide +kernel)
theorem zw_586 : Cond.code yX4_notice cX4_notice 3 (some .int) ∈ z_Ts := z_m 586 (by decide +kernel) (by decide +kernel)
theorem dL_notice_13 : decode cL_notice 13 = .ok (.astore 4, 2) := by decide +kernel
theorem dL_notice_15 : decode cL_notice 15 = .ok (.iconst 1, 1) := by decide +kernel
theorem dL_notice_16 : decode cL_notice 16 = .ok (.ireturn, 1) := by decide +kernel
set_option maxHeartbeats 4000000 in
set_option maxRecDepth 100000 in
theorem f_L_notice (l : Launch) (hst : l.stackTraces = false) (D : va_G) (h0 : Nat) (hu : Nat) (hs : Nat) (hc : Nat) (hp : Nat) (hg : Nat) (td : Int32) (sd : Int32) (a0 : Int32) (a1 : Int32) (ho : Nat) (fo : Nat → Int64) (cJ : ClassId) (sz : Nat)  : vx_Met l yL_notice [Cond.codeWith yL_notice cL_notice 5 (some .int) [(0, 10, 13, 23), (0, 10, 17, 15), (0, 10, 21, 13)]] ({ frames := 8, cells := 1, slots := 6, locals := 170 }) (z_Pc D [.ref h0, .int a0, .int a1, .ref ho] [(h0, .inr (6, [.ref hu, .ref hs, .ref hc, .ref hp, .ref hg, .int 0, .int 0, .int 0, .int td, .int sd])), (ho, .inl (cJ, 1, .inr (.inl fo)))] [(cJ, .long)] sz) (va_Qi (fun (r : Int32) (_ : Unit) => r = 1) (fun _ t => z_W D [(h0, .inr (6, [.ref hu, .ref hs, .ref hc, .ref hp, .ref hg, .int 0, .int 0, .int 0, .int td, .int sd])), (ho, .inl (cJ, 1, .inr (.inl fo)))] [(cJ, .long)] (va_A [(h0, .inr (6, [.ref hu, .ref hs, .ref hc, .ref hp, .ref hg, .int 0, .int 0, .int 0, .int td, .int sd])), (ho, .inl (cJ, 1, .inr (.inl fo)))] sz) t) (va_A [(h0, .inr (6, [.ref hu, .ref hs, .ref hc, .ref hp, .ref hg, .int 0, .int 0, .int 0, .int td, .int sd])), (ho, .inl (cJ, 1, .inr (.inl fo)))] sz)) (z_T (False) "none" D [(h0, .inr (6, [.ref hu, .ref hs, .ref hc, .ref hp, .ref hg, .int 0, .int 0, .int 0, .int td, .int sd])), (ho, .inl (cJ, 1, .inr (.inl fo)))] [(cJ, .long)] sz) 1 6 (va_A [(h0, .inr (6, [.ref hu, .ref hs, .ref hc, .ref hp, .ref hg, .int 0, .int 0, .int 0, .int td, .int sd])), (ho, .inl (cJ, 1, .inr (.inl fo)))] sz) := by
  refine vx_ofWH (cc := cL_notice) (maxL := 5) (ret := (some .int)) (hh := [(0, 10, 13, 23), (0, 10, 17, 15), (0, 10, 21, 13)]) (by decide +kernel) rfl ?_
  intro p e s m args below meth c s₁ B hml hv
  obtain ⟨rfl, hsz, hP, hK, hD0, hE, hX0⟩ := hv
  have hx := B.exec
  have hb := B.bytes
  have hr := B.returns
  have hts := z_E.ts (args := [.ref h0, .int a0, .int a1, .ref ho].toArray) hE
  have hown : s.vm.findClass RL = some m.cls := findClass_of_methodNamed B.named
  have hlocks := B.notSynchronized
  have htb := vx_table (x := yL_notice) B (atoms_spec (ws := [Cond.codeWith yL_notice cL_notice 5 (some .int) [(0, 10, 13, 23), (0, 10, 17, 15), (0, 10, 21, 13)]]) B.pre _ List.mem_cons_self)
  subst hsz
  have hD := hD0.self (sz := s.heap.size)
  generalize hAe : va_A [(h0, .inr (6, [.ref hu, .ref hs, .ref hc, .ref hp, .ref hg, .int 0, .int 0, .int 0, .int td, .int sd])), (ho, .inl (cJ, 1, .inr (.inl fo)))] s.heap.size = A at hD hX0 ⊢
  have hX : z_X D A s s.heap := hX0
  have hA : ∀ q : Nat, s.heap.size ≤ q → A q := fun q h => by rw [← hAe]; exact Or.inr h
  have hS : va_S A s.heap s.heap [] := va_S.rf
  have hP : va_P D vwCl [(h0, .inr (6, [.ref hu, .ref hs, .ref hc, .ref hp, .ref hg, .int 0, .int 0, .int 0, .int td, .int sd])), (ho, .inl (cJ, 1, .inr (.inl fo)))] s.heap := hP
  have hl := lv_entry ([.ref h0, .int a0, .int a1, .ref ho]) (n := 5) (Nat.le_of_ble_eq_true rfl)
  rw [lg_entry_eq]
  generalize (lg_sl ([.ref h0, .int a0, .int a1, .ref ho]) ++ List.replicate (5 - (lg_sl ([.ref h0, .int a0, .int a1, .ref ho])).length) Slot.unset).toArray = ls at hl ⊢
  have hl : lv_has ls 5 [(0, .ref h0), (1, .int a0), (2, .int a1), (3, .ref ho)] := hl
  skip
  refine lv_aload_n hx hb dL_notice_0 rfl (lv_at hl 3 rfl) ?_
  refine lv_iconst (v := 0) hx hb dL_notice_1 (by decide) ?_
  refine lv_aload_n hx hb dL_notice_2 rfl (lv_at hl 0 rfl) ?_
  refine lv_iload_n hx hb dL_notice_3 rfl (lv_at hl 1 rfl) ?_
  refine lv_iload_n hx hb dL_notice_4 rfl (lv_at hl 2 rfl) ?_
  obtain ⟨hb_1, hc_1⟩ := z_call (wc := [(h0, .inr (6, [.ref hu, .ref hs, .ref hc, .ref hp, .ref hg, .int 0, .int 0, .int 0, .int td, .int sd]))]) (tc := []) ([.ref h0, .int a0, .int a1]) hP hK hD hS hA hE hX [0] rfl rfl [] rfl
  have hF_1 := va_free (wc := [(h0, .inr (6, [.ref hu, .ref hs, .ref hc, .ref hp, .ref hg, .int 0, .int 0, .int 0, .int td, .int sd]))]) hD hS hA [0] rfl
  refine vx_calli (vx_runV (As := [.int a0, .int a1]) (rest := [.int 0, .ref ho]) ⟨hx, hb, hml, hown, hts⟩ (f_X4_notice l hst D h0 hu hs hc hp hg td sd a0 a1 _ ) (z_cV 2 hE zw_583 zw_584 zw_585 zw_91 zw_586 rfl rfl rfl (by decide +kernel) ⟨(Nat.le_of_ble_eq_true rfl), (Nat.le_of_ble_eq_true rfl)⟩) ⟨hb_1, va_recv hK hP (ci := 6) (q0 := 0) rfl rfl, hc_1⟩ rfl rfl hl.1 rfl (lv_room (Nat.le_of_ble_eq_true rfl)) dL_notice_5 ⟨(Nat.le_of_ble_eq_true rfl), (Nat.le_of_ble_eq_true rfl)⟩) hS (fun q _ h => hF_1 q h) hF_1 (fun q _ h => hF_1 q h) (fun E_1 ce_1 q9_1 u_1 t_1 H1 locs ht_1 hvm_1 hw_1 hB_1 hz_1 hk_1 hS1 hce_1 hcv_1 hcl_1 => ?_) (fun r_1 u_1 t_1 H1 locs ht_1 hvm_1 hw_1 hB_1 hz_1 hk_1 hS1 => ?_)
  · obtain ⟨rfl, hB_1⟩ := hB_1
    obtain ⟨hP, hK, hD⟩ := z_back (wc := [(h0, .inr (6, [.ref hu, .ref hs, .ref hc, .ref hp, .ref hg, .int 0, .int 0, .int 0, .int td, .int sd]))]) (wr := [(ho, .inl (cJ, 1, .inr (.inl fo)))]) (w1 := [(h0, .inr (6, [.ref hu, .ref hs, .ref hc, .ref hp, .ref hg, .int 0, .int 0, .int 0, .int td, .int sd]))]) (tr := [(cJ, .long)]) hP hK hD [0] [1] rfl rfl rfl (by decide) ht_1 hvm_1 hk_1 hF_1 [0] rfl hB_1
    have hS := hS1
    have hP : va_P D vwCl [(ho, .inl (cJ, 1, .inr (.inl fo))), (h0, .inr (6, [.ref hu, .ref hs, .ref hc, .ref hp, .ref hg, .int 0, .int 0, .int 0, .int td, .int sd]))] H1 := hP
    have hD : va_D A [(ho, .inl (cJ, 1, .inr (.inl fo))), (h0, .inr (6, [.ref hu, .ref hs, .ref hc, .ref hp, .ref hg, .int 0, .int 0, .int 0, .int td, .int sd]))] := hD
    have hK : va_K D vwCl [(cJ, .long)] s := hK
    clear hS1
    refine vx_catch (name := "java/lang/IndexOutOfBoundsException") hown [] ⟨0, 10, 13, 23⟩ [⟨0, 10, 17, 15⟩, ⟨0, 10, 21, 13⟩] (htb.trans rfl) (fun z hz => nomatch hz) (by decide) (by decide) (hts _ zw_520) (hts _ zw_531) hce_1 hcv_1 hcl_1 ?_
    refine lv_astore (lv' := [(4, .ref q9_1), (0, .ref h0), (1, .int a0), (2, .int a1), (3, .ref ho)]) hx hb dL_notice_13 hl (by decide) rfl (fun ls hl => ?_)
    refine lv_iconst (v := 1) hx hb dL_notice_15 (by decide) ?_
    exact vx_ret (W.iret (v := 1) hx hb hr (fun t ht hW => ⟨⟨1, (), rfl, rfl, z_end hP hK hD [1, 0] rfl rfl [0] rfl ht hW.alike⟩, hS.F ht⟩) hS.2.2 dL_notice_16)
  · exact hw_1.elim
theorem dL_work_0 : decode cL_work 0 = .ok (.aload_n 2, 1) := by decide +kernel
theorem dL_work_1 : decode cL_work 1 = .ok (.iconst 0, 1) := by decide +kernel
theorem dL_work_2 : decode cL_work 2 = .ok (.aload_n 0, 1) := by decide +kernel
theorem dL_work_3 : decode cL_work 3 = .ok (.iload_n 1, 1) := by decide +kernel
theorem dL_work_4 : decode cL_work 4 = .ok (.invokevirtual 35, 3) := by decide +kernel
theorem zw_592 : Cond.methodLink RL 35 yX4_work ∈ z_Ts := z_m 592 (by decide +kernel) (by decide +kernel)
theorem zw_593 : Cond.instanceMethod yX4_work ∈ z_Ts := z_m 593 (by decide +kernel) (by decide +kernel)
theorem zw_594 : Cond.selects RX4 yX4_work yX4_work ∈ z_Ts := z_m 594 (by decide +kernel) (by decide +kernel)
theorem zw_595 : Cond.code yX4_work cX4_work 2 (some .char) ∈ z_Ts := z_m 595 (by decide +kernel) (by decide +kernel)
theorem dL_work_12 : decode cL_work 12 = .ok (.astore_n 3, 1) := by decide +kernel
theorem dL_work_13 : decode cL_work 13 = .ok (.iconst 1, 1) := by decide +kernel
theorem dL_work_14 : decode cL_work 14 = .ok (.ireturn, 1) := by decide +kernel
set_option maxHeartbeats 4000000 in
set_option maxRecDepth 100000 in
theorem f_L_work (l : Launch) (hst : l.stackTraces = false) (D : va_G) (h0 : Nat) (hu : Nat) (hs : Nat) (hc : Nat) (hp : Nat) (hg : Nat) (td : Int32) (sd : Int32) (a0 : Int32) (ho : Nat) (fo : Nat → Int64) (cJ : ClassId) (sz : Nat)  : vx_Met l yL_work [Cond.codeWith yL_work cL_work 4 (some .int) [(0, 9, 12, 23), (0, 9, 15, 39)]] ({ frames := 8, cells := 1, slots := 6, locals := 170 }) (z_Pc D [.ref h0, .int a0, .ref ho] [(h0, .inr (6, [.ref hu, .ref hs, .ref hc, .ref hp, .ref hg, .int 0, .int 0, .int 0, .int td, .int sd])), (ho, .inl (cJ, 1, .inr (.inl fo)))] [(cJ, .long)] sz) (va_Qi (fun (r : Int32) (_ : Unit) => r = 1) (fun _ t => z_W D [(h0, .inr (6, [.ref hu, .ref hs, .ref hc, .ref hp, .ref hg, .int 0, .int 0, .int 0, .int td, .int sd])), (ho, .inl (cJ, 1, .inr (.inl fo)))] [(cJ, .long)] (va_A [(h0, .inr (6, [.ref hu, .ref hs, .ref hc, .ref hp, .ref hg, .int 0, .int 0, .int 0, .int td, .int sd])), (ho, .inl (cJ, 1, .inr (.inl fo)))] sz) t) (va_A [(h0, .inr (6, [.ref hu, .ref hs, .ref hc, .ref hp, .ref hg, .int 0, .int 0, .int 0, .int td, .int sd])), (ho, .inl (cJ, 1, .inr (.inl fo)))] sz)) (z_T (False) "none" D [(h0, .inr (6, [.ref hu, .ref hs, .ref hc, .ref hp, .ref hg, .int 0, .int 0, .int 0, .int td, .int sd])), (ho, .inl (cJ, 1, .inr (.inl fo)))] [(cJ, .long)] sz) 1 6 (va_A [(h0, .inr (6, [.ref hu, .ref hs, .ref hc, .ref hp, .ref hg, .int 0, .int 0, .int 0, .int td, .int sd])), (ho, .inl (cJ, 1, .inr (.inl fo)))] sz) := by
  refine vx_ofWH (cc := cL_work) (maxL := 4) (ret := (some .int)) (hh := [(0, 9, 12, 23), (0, 9, 15, 39)]) (by decide +kernel) rfl ?_
  intro p e s m args below meth c s₁ B hml hv
  obtain ⟨rfl, hsz, hP, hK, hD0, hE, hX0⟩ := hv
  have hx := B.exec
  have hb := B.bytes
  have hr := B.returns
  have hts := z_E.ts (args := [.ref h0, .int a0, .ref ho].toArray) hE
  have hown : s.vm.findClass RL = some m.cls := findClass_of_methodNamed B.named
  have hlocks := B.notSynchronized
  have htb := vx_table (x := yL_work) B (atoms_spec (ws := [Cond.codeWith yL_work cL_work 4 (some .int) [(0, 9, 12, 23), (0, 9, 15, 39)]]) B.pre _ List.mem_cons_self)
  subst hsz
  have hD := hD0.self (sz := s.heap.size)
  generalize hAe : va_A [(h0, .inr (6, [.ref hu, .ref hs, .ref hc, .ref hp, .ref hg, .int 0, .int 0, .int 0, .int td, .int sd])), (ho, .inl (cJ, 1, .inr (.inl fo)))] s.heap.size = A at hD hX0 ⊢
  have hX : z_X D A s s.heap := hX0
  have hA : ∀ q : Nat, s.heap.size ≤ q → A q := fun q h => by rw [← hAe]; exact Or.inr h
  have hS : va_S A s.heap s.heap [] := va_S.rf
  have hP : va_P D vwCl [(h0, .inr (6, [.ref hu, .ref hs, .ref hc, .ref hp, .ref hg, .int 0, .int 0, .int 0, .int td, .int sd])), (ho, .inl (cJ, 1, .inr (.inl fo)))] s.heap := hP
  have hl := lv_entry ([.ref h0, .int a0, .ref ho]) (n := 4) (Nat.le_of_ble_eq_true rfl)
  rw [lg_entry_eq]
  generalize (lg_sl ([.ref h0, .int a0, .ref ho]) ++ List.replicate (4 - (lg_sl ([.ref h0, .int a0, .ref ho])).length) Slot.unset).toArray = ls at hl ⊢
  have hl : lv_has ls 4 [(0, .ref h0), (1, .int a0), (2, .ref ho)] := hl
  skip
  refine lv_aload_n hx hb dL_work_0 rfl (lv_at hl 2 rfl) ?_
  refine lv_iconst (v := 0) hx hb dL_work_1 (by decide) ?_
  refine lv_aload_n hx hb dL_work_2 rfl (lv_at hl 0 rfl) ?_
  refine lv_iload_n hx hb dL_work_3 rfl (lv_at hl 1 rfl) ?_
  obtain ⟨hb_1, hc_1⟩ := z_call (wc := [(h0, .inr (6, [.ref hu, .ref hs, .ref hc, .ref hp, .ref hg, .int 0, .int 0, .int 0, .int td, .int sd]))]) (tc := []) ([.ref h0, .int a0]) hP hK hD hS hA hE hX [0] rfl rfl [] rfl
  have hF_1 := va_free (wc := [(h0, .inr (6, [.ref hu, .ref hs, .ref hc, .ref hp, .ref hg, .int 0, .int 0, .int 0, .int td, .int sd]))]) hD hS hA [0] rfl
  refine vx_calli (vx_runV (As := [.int a0]) (rest := [.int 0, .ref ho]) ⟨hx, hb, hml, hown, hts⟩ (f_X4_work l hst D h0 hu hs hc hp hg td sd a0 _ ) (z_cV 1 hE zw_592 zw_593 zw_594 zw_91 zw_595 rfl rfl rfl (by decide +kernel) ⟨(Nat.le_of_ble_eq_true rfl), (Nat.le_of_ble_eq_true rfl)⟩) ⟨hb_1, va_recv hK hP (ci := 6) (q0 := 0) rfl rfl, hc_1⟩ rfl rfl hl.1 rfl (lv_room (Nat.le_of_ble_eq_true rfl)) dL_work_4 ⟨(Nat.le_of_ble_eq_true rfl), (Nat.le_of_ble_eq_true rfl)⟩) hS (fun q _ h => hF_1 q h) hF_1 (fun q _ h => hF_1 q h) (fun E_1 ce_1 q9_1 u_1 t_1 H1 locs ht_1 hvm_1 hw_1 hB_1 hz_1 hk_1 hS1 hce_1 hcv_1 hcl_1 => ?_) (fun r_1 u_1 t_1 H1 locs ht_1 hvm_1 hw_1 hB_1 hz_1 hk_1 hS1 => ?_)
  · obtain ⟨rfl, hB_1⟩ := hB_1
    obtain ⟨hP, hK, hD⟩ := z_back (wc := [(h0, .inr (6, [.ref hu, .ref hs, .ref hc, .ref hp, .ref hg, .int 0, .int 0, .int 0, .int td, .int sd]))]) (wr := [(ho, .inl (cJ, 1, .inr (.inl fo)))]) (w1 := [(h0, .inr (6, [.ref hu, .ref hs, .ref hc, .ref hp, .ref hg, .int 0, .int 0, .int 0, .int td, .int sd]))]) (tr := [(cJ, .long)]) hP hK hD [0] [1] rfl rfl rfl (by decide) ht_1 hvm_1 hk_1 hF_1 [0] rfl hB_1
    have hS := hS1
    have hP : va_P D vwCl [(ho, .inl (cJ, 1, .inr (.inl fo))), (h0, .inr (6, [.ref hu, .ref hs, .ref hc, .ref hp, .ref hg, .int 0, .int 0, .int 0, .int td, .int sd]))] H1 := hP
    have hD : va_D A [(ho, .inl (cJ, 1, .inr (.inl fo))), (h0, .inr (6, [.ref hu, .ref hs, .ref hc, .ref hp, .ref hg, .int 0, .int 0, .int 0, .int td, .int sd]))] := hD
    have hK : va_K D vwCl [(cJ, .long)] s := hK
    clear hS1
    refine vx_catch (name := "java/lang/IndexOutOfBoundsException") hown [] ⟨0, 9, 12, 23⟩ [⟨0, 9, 15, 39⟩] (htb.trans rfl) (fun z hz => nomatch hz) (by decide) (by decide) (hts _ zw_520) (hts _ zw_531) hce_1 hcv_1 hcl_1 ?_
    refine lv_astore_n (lv' := [(3, .ref q9_1), (0, .ref h0), (1, .int a0), (2, .ref ho)]) hx hb dL_work_12 rfl hl (by decide) rfl (fun ls hl => ?_)
    refine lv_iconst (v := 1) hx hb dL_work_13 (by decide) ?_
    exact vx_ret (W.iret (v := 1) hx hb hr (fun t ht hW => ⟨⟨1, (), rfl, rfl, z_end hP hK hD [1, 0] rfl rfl [0] rfl ht hW.alike⟩, hS.F ht⟩) hS.2.2 dL_work_14)
  · exact hw_1.elim
theorem dL_left_0 : decode cL_left 0 = .ok (.aload_n 2, 1) := by decide +kernel
theorem dL_left_1 : decode cL_left 1 = .ok (.iconst 0, 1) := by decide +kernel
theorem dL_left_2 : decode cL_left 2 = .ok (.aload_n 0, 1) := by decide +kernel
theorem dL_left_3 : decode cL_left 3 = .ok (.iload_n 1, 1) := by decide +kernel
theorem dL_left_4 : decode cL_left 4 = .ok (.invokevirtual 41, 3) := by decide +kernel
theorem zw_619 : Cond.methodLink RL 41 yX4_left ∈ z_Ts := z_m 619 (by decide +kernel) (by decide +kernel)
theorem zw_620 : Cond.instanceMethod yX4_left ∈ z_Ts := z_m 620 (by decide +kernel) (by decide +kernel)
theorem zw_621 : Cond.selects RX4 yX4_left yX4_left ∈ z_Ts := z_m 621 (by decide +kernel) (by decide +kernel)
theorem zw_622 : Cond.code yX4_left cX4_left 2 (some .int) ∈ z_Ts := z_m 622 (by decide +kernel) (by decide +kernel)
theorem dL_left_12 : decode cL_left 12 = .ok (.astore_n 3, 1) := by decide +kernel
theorem dL_left_13 : decode cL_left 13 = .ok (.iconst 1, 1) := by decide +kernel
theorem dL_left_14 : decode cL_left 14 = .ok (.ireturn, 1) := by decide +kernel
set_option maxHeartbeats 4000000 in
set_option maxRecDepth 100000 in
theorem f_L_left (l : Launch) (hst : l.stackTraces = false) (D : va_G) (h0 : Nat) (hu : Nat) (hs : Nat) (hc : Nat) (hp : Nat) (hg : Nat) (td : Int32) (sd : Int32) (a0 : Int32) (ho : Nat) (fo : Nat → Int64) (cJ : ClassId) (sz : Nat)  : vx_Met l yL_left [Cond.codeWith yL_left cL_left 4 (some .int) [(0, 9, 12, 23), (0, 9, 15, 39)]] ({ frames := 8, cells := 1, slots := 6, locals := 170 }) (z_Pc D [.ref h0, .int a0, .ref ho] [(h0, .inr (6, [.ref hu, .ref hs, .ref hc, .ref hp, .ref hg, .int 0, .int 0, .int 0, .int td, .int sd])), (ho, .inl (cJ, 1, .inr (.inl fo)))] [(cJ, .long)] sz) (va_Qi (fun (r : Int32) (_ : Unit) => r = 1) (fun _ t => z_W D [(h0, .inr (6, [.ref hu, .ref hs, .ref hc, .ref hp, .ref hg, .int 0, .int 0, .int 0, .int td, .int sd])), (ho, .inl (cJ, 1, .inr (.inl fo)))] [(cJ, .long)] (va_A [(h0, .inr (6, [.ref hu, .ref hs, .ref hc, .ref hp, .ref hg, .int 0, .int 0, .int 0, .int td, .int sd])), (ho, .inl (cJ, 1, .inr (.inl fo)))] sz) t) (va_A [(h0, .inr (6, [.ref hu, .ref hs, .ref hc, .ref hp, .ref hg, .int 0, .int 0, .int 0, .int td, .int sd])), (ho, .inl (cJ, 1, .inr (.inl fo)))] sz)) (z_T (False) "none" D [(h0, .inr (6, [.ref hu, .ref hs, .ref hc, .ref hp, .ref hg, .int 0, .int 0, .int 0, .int td, .int sd])), (ho, .inl (cJ, 1, .inr (.inl fo)))] [(cJ, .long)] sz) 1 6 (va_A [(h0, .inr (6, [.ref hu, .ref hs, .ref hc, .ref hp, .ref hg, .int 0, .int 0, .int 0, .int td, .int sd])), (ho, .inl (cJ, 1, .inr (.inl fo)))] sz) := by
  refine vx_ofWH (cc := cL_left) (maxL := 4) (ret := (some .int)) (hh := [(0, 9, 12, 23), (0, 9, 15, 39)]) (by decide +kernel) rfl ?_
  intro p e s m args below meth c s₁ B hml hv
  obtain ⟨rfl, hsz, hP, hK, hD0, hE, hX0⟩ := hv
  have hx := B.exec
  have hb := B.bytes
  have hr := B.returns
  have hts := z_E.ts (args := [.ref h0, .int a0, .ref ho].toArray) hE
  have hown : s.vm.findClass RL = some m.cls := findClass_of_methodNamed B.named
  have hlocks := B.notSynchronized
  have htb := vx_table (x := yL_left) B (atoms_spec (ws := [Cond.codeWith yL_left cL_left 4 (some .int) [(0, 9, 12, 23), (0, 9, 15, 39)]]) B.pre _ List.mem_cons_self)
  subst hsz
  have hD := hD0.self (sz := s.heap.size)
  generalize hAe : va_A [(h0, .inr (6, [.ref hu, .ref hs, .ref hc, .ref hp, .ref hg, .int 0, .int 0, .int 0, .int td, .int sd])), (ho, .inl (cJ, 1, .inr (.inl fo)))] s.heap.size = A at hD hX0 ⊢
  have hX : z_X D A s s.heap := hX0
  have hA : ∀ q : Nat, s.heap.size ≤ q → A q := fun q h => by rw [← hAe]; exact Or.inr h
  have hS : va_S A s.heap s.heap [] := va_S.rf
  have hP : va_P D vwCl [(h0, .inr (6, [.ref hu, .ref hs, .ref hc, .ref hp, .ref hg, .int 0, .int 0, .int 0, .int td, .int sd])), (ho, .inl (cJ, 1, .inr (.inl fo)))] s.heap := hP
  have hl := lv_entry ([.ref h0, .int a0, .ref ho]) (n := 4) (Nat.le_of_ble_eq_true rfl)
  rw [lg_entry_eq]
  generalize (lg_sl ([.ref h0, .int a0, .ref ho]) ++ List.replicate (4 - (lg_sl ([.ref h0, .int a0, .ref ho])).length) Slot.unset).toArray = ls at hl ⊢
  have hl : lv_has ls 4 [(0, .ref h0), (1, .int a0), (2, .ref ho)] := hl
  skip
  refine lv_aload_n hx hb dL_left_0 rfl (lv_at hl 2 rfl) ?_
  refine lv_iconst (v := 0) hx hb dL_left_1 (by decide) ?_
  refine lv_aload_n hx hb dL_left_2 rfl (lv_at hl 0 rfl) ?_
  refine lv_iload_n hx hb dL_left_3 rfl (lv_at hl 1 rfl) ?_
  obtain ⟨hb_1, hc_1⟩ := z_call (wc := [(h0, .inr (6, [.ref hu, .ref hs, .ref hc, .ref hp, .ref hg, .int 0, .int 0, .int 0, .int td, .int sd]))]) (tc := []) ([.ref h0, .int a0]) hP hK hD hS hA hE hX [0] rfl rfl [] rfl
  have hF_1 := va_free (wc := [(h0, .inr (6, [.ref hu, .ref hs, .ref hc, .ref hp, .ref hg, .int 0, .int 0, .int 0, .int td, .int sd]))]) hD hS hA [0] rfl
  refine vx_calli (vx_runV (As := [.int a0]) (rest := [.int 0, .ref ho]) ⟨hx, hb, hml, hown, hts⟩ (f_X4_left l hst D h0 hu hs hc hp hg td sd a0 _ ) (z_cV 1 hE zw_619 zw_620 zw_621 zw_91 zw_622 rfl rfl rfl (by decide +kernel) ⟨(Nat.le_of_ble_eq_true rfl), (Nat.le_of_ble_eq_true rfl)⟩) ⟨hb_1, va_recv hK hP (ci := 6) (q0 := 0) rfl rfl, hc_1⟩ rfl rfl hl.1 rfl (lv_room (Nat.le_of_ble_eq_true rfl)) dL_left_4 ⟨(Nat.le_of_ble_eq_true rfl), (Nat.le_of_ble_eq_true rfl)⟩) hS (fun q _ h => hF_1 q h) hF_1 (fun q _ h => hF_1 q h) (fun E_1 ce_1 q9_1 u_1 t_1 H1 locs ht_1 hvm_1 hw_1 hB_1 hz_1 hk_1 hS1 hce_1 hcv_1 hcl_1 => ?_) (fun r_1 u_1 t_1 H1 locs ht_1 hvm_1 hw_1 hB_1 hz_1 hk_1 hS1 => ?_)
  · obtain ⟨rfl, hB_1⟩ := hB_1
    obtain ⟨hP, hK, hD⟩ := z_back (wc := [(h0, .inr (6, [.ref hu, .ref hs, .ref hc, .ref hp, .ref hg, .int 0, .int 0, .int 0, .int td, .int sd]))]) (wr := [(ho, .inl (cJ, 1, .inr (.inl fo)))]) (w1 := [(h0, .inr (6, [.ref hu, .ref hs, .ref hc, .ref hp, .ref hg, .int 0, .int 0, .int 0, .int td, .int sd]))]) (tr := [(cJ, .long)]) hP hK hD [0] [1] rfl rfl rfl (by decide) ht_1 hvm_1 hk_1 hF_1 [0] rfl hB_1
    have hS := hS1
    have hP : va_P D vwCl [(ho, .inl (cJ, 1, .inr (.inl fo))), (h0, .inr (6, [.ref hu, .ref hs, .ref hc, .ref hp, .ref hg, .int 0, .int 0, .int 0, .int td, .int sd]))] H1 := hP
    have hD : va_D A [(ho, .inl (cJ, 1, .inr (.inl fo))), (h0, .inr (6, [.ref hu, .ref hs, .ref hc, .ref hp, .ref hg, .int 0, .int 0, .int 0, .int td, .int sd]))] := hD
    have hK : va_K D vwCl [(cJ, .long)] s := hK
    clear hS1
    refine vx_catch (name := "java/lang/IndexOutOfBoundsException") hown [] ⟨0, 9, 12, 23⟩ [⟨0, 9, 15, 39⟩] (htb.trans rfl) (fun z hz => nomatch hz) (by decide) (by decide) (hts _ zw_520) (hts _ zw_531) hce_1 hcv_1 hcl_1 ?_
    refine lv_astore_n (lv' := [(3, .ref q9_1), (0, .ref h0), (1, .int a0), (2, .ref ho)]) hx hb dL_left_12 rfl hl (by decide) rfl (fun ls hl => ?_)
    refine lv_iconst (v := 1) hx hb dL_left_13 (by decide) ?_
    exact vx_ret (W.iret (v := 1) hx hb hr (fun t ht hW => ⟨⟨1, (), rfl, rfl, z_end hP hK hD [1, 0] rfl rfl [0] rfl ht hW.alike⟩, hS.F ht⟩) hS.2.2 dL_left_14)
  · exact hw_1.elim
theorem dL_whyNot_0 : decode cL_whyNot 0 = .ok (.aload_n 2, 1) := by decide +kernel
theorem dL_whyNot_1 : decode cL_whyNot 1 = .ok (.iconst 0, 1) := by decide +kernel
theorem dL_whyNot_2 : decode cL_whyNot 2 = .ok (.aload_n 0, 1) := by decide +kernel
theorem dL_whyNot_3 : decode cL_whyNot 3 = .ok (.iload_n 1, 1) := by decide +kernel
theorem dL_whyNot_4 : decode cL_whyNot 4 = .ok (.invokevirtual 44, 3) := by decide +kernel
theorem zw_626 : Cond.methodLink RL 44 yX4_whyNot ∈ z_Ts := z_m 626 (by decide +kernel) (by decide +kernel)
theorem zw_627 : Cond.instanceMethod yX4_whyNot ∈ z_Ts := z_m 627 (by decide +kernel) (by decide +kernel)
theorem zw_628 : Cond.selects RX4 yX4_whyNot yX4_whyNot ∈ z_Ts := z_m 628 (by decide +kernel) (by decide +kernel)
theorem zw_629 : Cond.code yX4_whyNot cX4_whyNot 2 (some .char) ∈ z_Ts := z_m 629 (by decide +kernel) (by decide +kernel)
theorem dL_whyNot_12 : decode cL_whyNot 12 = .ok (.astore_n 3, 1) := by decide +kernel
theorem dL_whyNot_13 : decode cL_whyNot 13 = .ok (.iconst 1, 1) := by decide +kernel
theorem dL_whyNot_14 : decode cL_whyNot 14 = .ok (.ireturn, 1) := by decide +kernel
set_option maxHeartbeats 4000000 in
set_option maxRecDepth 100000 in
theorem f_L_whyNot (l : Launch) (hst : l.stackTraces = false) (D : va_G) (h0 : Nat) (hu : Nat) (hs : Nat) (hc : Nat) (hp : Nat) (hg : Nat) (td : Int32) (sd : Int32) (a0 : Int32) (ho : Nat) (fo : Nat → Int64) (cJ : ClassId) (sz : Nat)  : vx_Met l yL_whyNot [Cond.codeWith yL_whyNot cL_whyNot 4 (some .int) [(0, 9, 12, 23), (0, 9, 15, 39)]] ({ frames := 8, cells := 1, slots := 6, locals := 170 }) (z_Pc D [.ref h0, .int a0, .ref ho] [(h0, .inr (6, [.ref hu, .ref hs, .ref hc, .ref hp, .ref hg, .int 0, .int 0, .int 0, .int td, .int sd])), (ho, .inl (cJ, 1, .inr (.inl fo)))] [(cJ, .long)] sz) (va_Qi (fun (r : Int32) (_ : Unit) => r = 1) (fun _ t => z_W D [(h0, .inr (6, [.ref hu, .ref hs, .ref hc, .ref hp, .ref hg, .int 0, .int 0, .int 0, .int td, .int sd])), (ho, .inl (cJ, 1, .inr (.inl fo)))] [(cJ, .long)] (va_A [(h0, .inr (6, [.ref hu, .ref hs, .ref hc, .ref hp, .ref hg, .int 0, .int 0, .int 0, .int td, .int sd])), (ho, .inl (cJ, 1, .inr (.inl fo)))] sz) t) (va_A [(h0, .inr (6, [.ref hu, .ref hs, .ref hc, .ref hp, .ref hg, .int 0, .int 0, .int 0, .int td, .int sd])), (ho, .inl (cJ, 1, .inr (.inl fo)))] sz)) (z_T (False) "none" D [(h0, .inr (6, [.ref hu, .ref hs, .ref hc, .ref hp, .ref hg, .int 0, .int 0, .int 0, .int td, .int sd])), (ho, .inl (cJ, 1, .inr (.inl fo)))] [(cJ, .long)] sz) 1 6 (va_A [(h0, .inr (6, [.ref hu, .ref hs, .ref hc, .ref hp, .ref hg, .int 0, .int 0, .int 0, .int td, .int sd])), (ho, .inl (cJ, 1, .inr (.inl fo)))] sz) := by
  refine vx_ofWH (cc := cL_whyNot) (maxL := 4) (ret := (some .int)) (hh := [(0, 9, 12, 23), (0, 9, 15, 39)]) (by decide +kernel) rfl ?_
  intro p e s m args below meth c s₁ B hml hv
  obtain ⟨rfl, hsz, hP, hK, hD0, hE, hX0⟩ := hv
  have hx := B.exec
  have hb := B.bytes
  have hr := B.returns
  have hts := z_E.ts (args := [.ref h0, .int a0, .ref ho].toArray) hE
  have hown : s.vm.findClass RL = some m.cls := findClass_of_methodNamed B.named
  have hlocks := B.notSynchronized
  have htb := vx_table (x := yL_whyNot) B (atoms_spec (ws := [Cond.codeWith yL_whyNot cL_whyNot 4 (some .int) [(0, 9, 12, 23), (0, 9, 15, 39)]]) B.pre _ List.mem_cons_self)
  subst hsz
  have hD := hD0.self (sz := s.heap.size)
  generalize hAe : va_A [(h0, .inr (6, [.ref hu, .ref hs, .ref hc, .ref hp, .ref hg, .int 0, .int 0, .int 0, .int td, .int sd])), (ho, .inl (cJ, 1, .inr (.inl fo)))] s.heap.size = A at hD hX0 ⊢
  have hX : z_X D A s s.heap := hX0
  have hA : ∀ q : Nat, s.heap.size ≤ q → A q := fun q h => by rw [← hAe]; exact Or.inr h
  have hS : va_S A s.heap s.heap [] := va_S.rf
  have hP : va_P D vwCl [(h0, .inr (6, [.ref hu, .ref hs, .ref hc, .ref hp, .ref hg, .int 0, .int 0, .int 0, .int td, .int sd])), (ho, .inl (cJ, 1, .inr (.inl fo)))] s.heap := hP
  have hl := lv_entry ([.ref h0, .int a0, .ref ho]) (n := 4) (Nat.le_of_ble_eq_true rfl)
  rw [lg_entry_eq]
  generalize (lg_sl ([.ref h0, .int a0, .ref ho]) ++ List.replicate (4 - (lg_sl ([.ref h0, .int a0, .ref ho])).length) Slot.unset).toArray = ls at hl ⊢
  have hl : lv_has ls 4 [(0, .ref h0), (1, .int a0), (2, .ref ho)] := hl
  skip
  refine lv_aload_n hx hb dL_whyNot_0 rfl (lv_at hl 2 rfl) ?_
  refine lv_iconst (v := 0) hx hb dL_whyNot_1 (by decide) ?_
  refine lv_aload_n hx hb dL_whyNot_2 rfl (lv_at hl 0 rfl) ?_
  refine lv_iload_n hx hb dL_whyNot_3 rfl (lv_at hl 1 rfl) ?_
  obtain ⟨hb_1, hc_1⟩ := z_call (wc := [(h0, .inr (6, [.ref hu, .ref hs, .ref hc, .ref hp, .ref hg, .int 0, .int 0, .int 0, .int td, .int sd]))]) (tc := []) ([.ref h0, .int a0]) hP hK hD hS hA hE hX [0] rfl rfl [] rfl
  have hF_1 := va_free (wc := [(h0, .inr (6, [.ref hu, .ref hs, .ref hc, .ref hp, .ref hg, .int 0, .int 0, .int 0, .int td, .int sd]))]) hD hS hA [0] rfl
  refine vx_calli (vx_runV (As := [.int a0]) (rest := [.int 0, .ref ho]) ⟨hx, hb, hml, hown, hts⟩ (f_X4_whyNot l hst D h0 hu hs hc hp hg td sd a0 _ ) (z_cV 1 hE zw_626 zw_627 zw_628 zw_91 zw_629 rfl rfl rfl (by decide +kernel) ⟨(Nat.le_of_ble_eq_true rfl), (Nat.le_of_ble_eq_true rfl)⟩) ⟨hb_1, va_recv hK hP (ci := 6) (q0 := 0) rfl rfl, hc_1⟩ rfl rfl hl.1 rfl (lv_room (Nat.le_of_ble_eq_true rfl)) dL_whyNot_4 ⟨(Nat.le_of_ble_eq_true rfl), (Nat.le_of_ble_eq_true rfl)⟩) hS (fun q _ h => hF_1 q h) hF_1 (fun q _ h => hF_1 q h) (fun E_1 ce_1 q9_1 u_1 t_1 H1 locs ht_1 hvm_1 hw_1 hB_1 hz_1 hk_1 hS1 hce_1 hcv_1 hcl_1 => ?_) (fun r_1 u_1 t_1 H1 locs ht_1 hvm_1 hw_1 hB_1 hz_1 hk_1 hS1 => ?_)
  · obtain ⟨rfl, hB_1⟩ := hB_1
    obtain ⟨hP, hK, hD⟩ := z_back (wc := [(h0, .inr (6, [.ref hu, .ref hs, .ref hc, .ref hp, .ref hg, .int 0, .int 0, .int 0, .int td, .int sd]))]) (wr := [(ho, .inl (cJ, 1, .inr (.inl fo)))]) (w1 := [(h0, .inr (6, [.ref hu, .ref hs, .ref hc, .ref hp, .ref hg, .int 0, .int 0, .int 0, .int td, .int sd]))]) (tr := [(cJ, .long)]) hP hK hD [0] [1] rfl rfl rfl (by decide) ht_1 hvm_1 hk_1 hF_1 [0] rfl hB_1
    have hS := hS1
    have hP : va_P D vwCl [(ho, .inl (cJ, 1, .inr (.inl fo))), (h0, .inr (6, [.ref hu, .ref hs, .ref hc, .ref hp, .ref hg, .int 0, .int 0, .int 0, .int td, .int sd]))] H1 := hP
    have hD : va_D A [(ho, .inl (cJ, 1, .inr (.inl fo))), (h0, .inr (6, [.ref hu, .ref hs, .ref hc, .ref hp, .ref hg, .int 0, .int 0, .int 0, .int td, .int sd]))] := hD
    have hK : va_K D vwCl [(cJ, .long)] s := hK
    clear hS1
    refine vx_catch (name := "java/lang/IndexOutOfBoundsException") hown [] ⟨0, 9, 12, 23⟩ [⟨0, 9, 15, 39⟩] (htb.trans rfl) (fun z hz => nomatch hz) (by decide) (by decide) (hts _ zw_520) (hts _ zw_531) hce_1 hcv_1 hcl_1 ?_
    refine lv_astore_n (lv' := [(3, .ref q9_1), (0, .ref h0), (1, .int a0), (2, .ref ho)]) hx hb dL_whyNot_12 rfl hl (by decide) rfl (fun ls hl => ?_)
    refine lv_iconst (v := 1) hx hb dL_whyNot_13 (by decide) ?_
    exact vx_ret (W.iret (v := 1) hx hb hr (fun t ht hW => ⟨⟨1, (), rfl, rfl, z_end hP hK hD [1, 0] rfl rfl [0] rfl ht hW.alike⟩, hS.F ht⟩) hS.2.2 dL_whyNot_14)
  · exact hw_1.elim
theorem dL_begin_0 : decode cL_begin 0 = .ok (.aload_n 2, 1) := by decide +kernel
theorem dL_begin_1 : decode cL_begin 1 = .ok (.iconst 0, 1) := by decide +kernel
theorem dL_begin_2 : decode cL_begin 2 = .ok (.aload_n 0, 1) := by decide +kernel
theorem dL_begin_3 : decode cL_begin 3 = .ok (.iload_n 1, 1) := by decide +kernel
theorem dL_begin_4 : decode cL_begin 4 = .ok (.invokevirtual 47, 3) := by decide +kernel
theorem zw_641 : Cond.methodLink RL 47 yX4_begin ∈ z_Ts := z_m 641 (by decide +kernel) (by decide +kernel)
theorem zw_642 : Cond.instanceMethod yX4_begin ∈ z_Ts := z_m 642 (by decide +kernel) (by decide +kernel)
theorem zw_643 : Cond.selects RX4 yX4_begin yX4_begin ∈ z_Ts := z_m 643 (by decide +kernel) (by decide +kernel)
theorem zw_644 : Cond.code yX4_begin cX4_begin 2 (some .int) ∈ z_Ts := z_m 644 (by decide +kernel) (by decide +kernel)
theorem dL_begin_12 : decode cL_begin 12 = .ok (.astore_n 3, 1) := by decide +kernel
theorem dL_begin_13 : decode cL_begin 13 = .ok (.iconst 1, 1) := by decide +kernel
theorem dL_begin_14 : decode cL_begin 14 = .ok (.ireturn, 1) := by decide +kernel
set_option maxHeartbeats 4000000 in
set_option maxRecDepth 100000 in
theorem f_L_begin (l : Launch) (hst : l.stackTraces = false) (D : va_G) (h0 : Nat) (hu : Nat) (hs : Nat) (hc : Nat) (hp : Nat) (hg : Nat) (td : Int32) (sd : Int32) (a0 : Int32) (ho : Nat) (fo : Nat → Int64) (cJ : ClassId) (sz : Nat)  : vx_Met l yL_begin [Cond.codeWith yL_begin cL_begin 4 (some .int) [(0, 9, 12, 23), (0, 9, 15, 15)]] ({ frames := 8, cells := 1, slots := 6, locals := 170 }) (z_Pc D [.ref h0, .int a0, .ref ho] [(h0, .inr (6, [.ref hu, .ref hs, .ref hc, .ref hp, .ref hg, .int 0, .int 0, .int 0, .int td, .int sd])), (ho, .inl (cJ, 1, .inr (.inl fo)))] [(cJ, .long)] sz) (va_Qi (fun (r : Int32) (_ : Unit) => r = 1) (fun _ t => z_W D [(h0, .inr (6, [.ref hu, .ref hs, .ref hc, .ref hp, .ref hg, .int 0, .int 0, .int 0, .int td, .int sd])), (ho, .inl (cJ, 1, .inr (.inl fo)))] [(cJ, .long)] (va_A [(h0, .inr (6, [.ref hu, .ref hs, .ref hc, .ref hp, .ref hg, .int 0, .int 0, .int 0, .int td, .int sd])), (ho, .inl (cJ, 1, .inr (.inl fo)))] sz) t) (va_A [(h0, .inr (6, [.ref hu, .ref hs, .ref hc, .ref hp, .ref hg, .int 0, .int 0, .int 0, .int td, .int sd])), (ho, .inl (cJ, 1, .inr (.inl fo)))] sz)) (z_T (False) "none" D [(h0, .inr (6, [.ref hu, .ref hs, .ref hc, .ref hp, .ref hg, .int 0, .int 0, .int 0, .int td, .int sd])), (ho, .inl (cJ, 1, .inr (.inl fo)))] [(cJ, .long)] sz) 1 6 (va_A [(h0, .inr (6, [.ref hu, .ref hs, .ref hc, .ref hp, .ref hg, .int 0, .int 0, .int 0, .int td, .int sd])), (ho, .inl (cJ, 1, .inr (.inl fo)))] sz) := by
  refine vx_ofWH (cc := cL_begin) (maxL := 4) (ret := (some .int)) (hh := [(0, 9, 12, 23), (0, 9, 15, 15)]) (by decide +kernel) rfl ?_
  intro p e s m args below meth c s₁ B hml hv
  obtain ⟨rfl, hsz, hP, hK, hD0, hE, hX0⟩ := hv
  have hx := B.exec
  have hb := B.bytes
  have hr := B.returns
  have hts := z_E.ts (args := [.ref h0, .int a0, .ref ho].toArray) hE
  have hown : s.vm.findClass RL = some m.cls := findClass_of_methodNamed B.named
  have hlocks := B.notSynchronized
  have htb := vx_table (x := yL_begin) B (atoms_spec (ws := [Cond.codeWith yL_begin cL_begin 4 (some .int) [(0, 9, 12, 23), (0, 9, 15, 15)]]) B.pre _ List.mem_cons_self)
  subst hsz
  have hD := hD0.self (sz := s.heap.size)
  generalize hAe : va_A [(h0, .inr (6, [.ref hu, .ref hs, .ref hc, .ref hp, .ref hg, .int 0, .int 0, .int 0, .int td, .int sd])), (ho, .inl (cJ, 1, .inr (.inl fo)))] s.heap.size = A at hD hX0 ⊢
  have hX : z_X D A s s.heap := hX0
  have hA : ∀ q : Nat, s.heap.size ≤ q → A q := fun q h => by rw [← hAe]; exact Or.inr h
  have hS : va_S A s.heap s.heap [] := va_S.rf
  have hP : va_P D vwCl [(h0, .inr (6, [.ref hu, .ref hs, .ref hc, .ref hp, .ref hg, .int 0, .int 0, .int 0, .int td, .int sd])), (ho, .inl (cJ, 1, .inr (.inl fo)))] s.heap := hP
  have hl := lv_entry ([.ref h0, .int a0, .ref ho]) (n := 4) (Nat.le_of_ble_eq_true rfl)
  rw [lg_entry_eq]
  generalize (lg_sl ([.ref h0, .int a0, .ref ho]) ++ List.replicate (4 - (lg_sl ([.ref h0, .int a0, .ref ho])).length) Slot.unset).toArray = ls at hl ⊢
  have hl : lv_has ls 4 [(0, .ref h0), (1, .int a0), (2, .ref ho)] := hl
  skip
  refine lv_aload_n hx hb dL_begin_0 rfl (lv_at hl 2 rfl) ?_
  refine lv_iconst (v := 0) hx hb dL_begin_1 (by decide) ?_
  refine lv_aload_n hx hb dL_begin_2 rfl (lv_at hl 0 rfl) ?_
  refine lv_iload_n hx hb dL_begin_3 rfl (lv_at hl 1 rfl) ?_
  obtain ⟨hb_1, hc_1⟩ := z_call (wc := [(h0, .inr (6, [.ref hu, .ref hs, .ref hc, .ref hp, .ref hg, .int 0, .int 0, .int 0, .int td, .int sd]))]) (tc := []) ([.ref h0, .int a0]) hP hK hD hS hA hE hX [0] rfl rfl [] rfl
  have hF_1 := va_free (wc := [(h0, .inr (6, [.ref hu, .ref hs, .ref hc, .ref hp, .ref hg, .int 0, .int 0, .int 0, .int td, .int sd]))]) hD hS hA [0] rfl
  refine vx_calli (vx_runV (As := [.int a0]) (rest := [.int 0, .ref ho]) ⟨hx, hb, hml, hown, hts⟩ (f_X4_begin l hst D h0 hu hs hc hp hg td sd a0 _ ) (z_cV 1 hE zw_641 zw_642 zw_643 zw_91 zw_644 rfl rfl rfl (by decide +kernel) ⟨(Nat.le_of_ble_eq_true rfl), (Nat.le_of_ble_eq_true rfl)⟩) ⟨hb_1, va_recv hK hP (ci := 6) (q0 := 0) rfl rfl, hc_1⟩ rfl rfl hl.1 rfl (lv_room (Nat.le_of_ble_eq_true rfl)) dL_begin_4 ⟨(Nat.le_of_ble_eq_true rfl), (Nat.le_of_ble_eq_true rfl)⟩) hS (fun q _ h => hF_1 q h) hF_1 (fun q _ h => hF_1 q h) (fun E_1 ce_1 q9_1 u_1 t_1 H1 locs ht_1 hvm_1 hw_1 hB_1 hz_1 hk_1 hS1 hce_1 hcv_1 hcl_1 => ?_) (fun r_1 u_1 t_1 H1 locs ht_1 hvm_1 hw_1 hB_1 hz_1 hk_1 hS1 => ?_)
  · obtain ⟨rfl, hB_1⟩ := hB_1
    obtain ⟨hP, hK, hD⟩ := z_back (wc := [(h0, .inr (6, [.ref hu, .ref hs, .ref hc, .ref hp, .ref hg, .int 0, .int 0, .int 0, .int td, .int sd]))]) (wr := [(ho, .inl (cJ, 1, .inr (.inl fo)))]) (w1 := [(h0, .inr (6, [.ref hu, .ref hs, .ref hc, .ref hp, .ref hg, .int 0, .int 0, .int 0, .int td, .int sd]))]) (tr := [(cJ, .long)]) hP hK hD [0] [1] rfl rfl rfl (by decide) ht_1 hvm_1 hk_1 hF_1 [0] rfl hB_1
    have hS := hS1
    have hP : va_P D vwCl [(ho, .inl (cJ, 1, .inr (.inl fo))), (h0, .inr (6, [.ref hu, .ref hs, .ref hc, .ref hp, .ref hg, .int 0, .int 0, .int 0, .int td, .int sd]))] H1 := hP
    have hD : va_D A [(ho, .inl (cJ, 1, .inr (.inl fo))), (h0, .inr (6, [.ref hu, .ref hs, .ref hc, .ref hp, .ref hg, .int 0, .int 0, .int 0, .int td, .int sd]))] := hD
    have hK : va_K D vwCl [(cJ, .long)] s := hK
    clear hS1
    refine vx_catch (name := "java/lang/IndexOutOfBoundsException") hown [] ⟨0, 9, 12, 23⟩ [⟨0, 9, 15, 15⟩] (htb.trans rfl) (fun z hz => nomatch hz) (by decide) (by decide) (hts _ zw_520) (hts _ zw_531) hce_1 hcv_1 hcl_1 ?_
    refine lv_astore_n (lv' := [(3, .ref q9_1), (0, .ref h0), (1, .int a0), (2, .ref ho)]) hx hb dL_begin_12 rfl hl (by decide) rfl (fun ls hl => ?_)
    refine lv_iconst (v := 1) hx hb dL_begin_13 (by decide) ?_
    exact vx_ret (W.iret (v := 1) hx hb hr (fun t ht hW => ⟨⟨1, (), rfl, rfl, z_end hP hK hD [1, 0] rfl rfl [0] rfl ht hW.alike⟩, hS.F ht⟩) hS.2.2 dL_begin_14)
  · exact hw_1.elim
theorem dL_find_0 : decode cL_find 0 = .ok (.aload_n 3, 1) := by decide +kernel
theorem dL_find_1 : decode cL_find 1 = .ok (.iconst 0, 1) := by decide +kernel
theorem dL_find_2 : decode cL_find 2 = .ok (.aload_n 0, 1) := by decide +kernel
theorem dL_find_3 : decode cL_find 3 = .ok (.iload_n 1, 1) := by decide +kernel
theorem dL_find_4 : decode cL_find 4 = .ok (.iload_n 2, 1) := by decide +kernel
theorem dL_find_5 : decode cL_find 5 = .ok (.invokevirtual 50, 3) := by decide +kernel
theorem zw_649 : Cond.methodLink RL 50 yX4_find ∈ z_Ts := z_m 649 (by decide +kernel) (by decide +kernel)
theorem zw_650 : Cond.instanceMethod yX4_find ∈ z_Ts := z_m 650 (by decide +kernel) (by decide +kernel)
theorem zw_651 : Cond.selects RX4 yX4_find yX4_find ∈ z_Ts := z_m 651 (by decide +kernel) (by decide +kernel)
theorem zw_652 : Cond.code yX4_find cX4_find 3 (some .int) ∈ z_Ts := z_m 652 (by decide +kernel) (by decide +kernel)
theorem dL_find_13 : decode cL_find 13 = .ok (.astore 4, 2) := by decide +kernel
theorem dL_find_15 : decode cL_find 15 = .ok (.iconst 1, 1) := by decide +kernel
theorem dL_find_16 : decode cL_find 16 = .ok (.ireturn, 1) := by decide +kernel
set_option maxHeartbeats 4000000 in
set_option maxRecDepth 100000 in
theorem f_L_find (l : Launch) (hst : l.stackTraces = false) (D : va_G) (h0 : Nat) (hu : Nat) (hs : Nat) (hc : Nat) (hp : Nat) (hg : Nat) (td : Int32) (sd : Int32) (a0 : Int32) (a1 : Int32) (ho : Nat) (fo : Nat → Int64) (cJ : ClassId) (sz : Nat)  : vx_Met l yL_find [Cond.codeWith yL_find cL_find 5 (some .int) [(0, 10, 13, 23), (0, 10, 17, 13), (0, 10, 21, 15)]] ({ frames := 8, cells := 1, slots := 6, locals := 170 }) (z_Pc D [.ref h0, .int a0, .int a1, .ref ho] [(h0, .inr (6, [.ref hu, .ref hs, .ref hc, .ref hp, .ref hg, .int 0, .int 0, .int 0, .int td, .int sd])), (ho, .inl (cJ, 1, .inr (.inl fo)))] [(cJ, .long)] sz) (va_Qi (fun (r : Int32) (_ : Unit) => r = 1) (fun _ t => z_W D [(h0, .inr (6, [.ref hu, .ref hs, .ref hc, .ref hp, .ref hg, .int 0, .int 0, .int 0, .int td, .int sd])), (ho, .inl (cJ, 1, .inr (.inl fo)))] [(cJ, .long)] (va_A [(h0, .inr (6, [.ref hu, .ref hs, .ref hc, .ref hp, .ref hg, .int 0, .int 0, .int 0, .int td, .int sd])), (ho, .inl (cJ, 1, .inr (.inl fo)))] sz) t) (va_A [(h0, .inr (6, [.ref hu, .ref hs, .ref hc, .ref hp, .ref hg, .int 0, .int 0, .int 0, .int td, .int sd])), (ho, .inl (cJ, 1, .inr (.inl fo)))] sz)) (z_T (False) "none" D [(h0, .inr (6, [.ref hu, .ref hs, .ref hc, .ref hp, .ref hg, .int 0, .int 0, .int 0, .int td, .int sd])), (ho, .inl (cJ, 1, .inr (.inl fo)))] [(cJ, .long)] sz) 1 6 (va_A [(h0, .inr (6, [.ref hu, .ref hs, .ref hc, .ref hp, .ref hg, .int 0, .int 0, .int 0, .int td, .int sd])), (ho, .inl (cJ, 1, .inr (.inl fo)))] sz) := by
  refine vx_ofWH (cc := cL_find) (maxL := 5) (ret := (some .int)) (hh := [(0, 10, 13, 23), (0, 10, 17, 13), (0, 10, 21, 15)]) (by decide +kernel) rfl ?_
  intro p e s m args below meth c s₁ B hml hv
  obtain ⟨rfl, hsz, hP, hK, hD0, hE, hX0⟩ := hv
  have hx := B.exec
  have hb := B.bytes
  have hr := B.returns
  have hts := z_E.ts (args := [.ref h0, .int a0, .int a1, .ref ho].toArray) hE
  have hown : s.vm.findClass RL = some m.cls := findClass_of_methodNamed B.named
  have hlocks := B.notSynchronized
  have htb := vx_table (x := yL_find) B (atoms_spec (ws := [Cond.codeWith yL_find cL_find 5 (some .int) [(0, 10, 13, 23), (0, 10, 17, 13), (0, 10, 21, 15)]]) B.pre _ List.mem_cons_self)
  subst hsz
  have hD := hD0.self (sz := s.heap.size)
  generalize hAe : va_A [(h0, .inr (6, [.ref hu, .ref hs, .ref hc, .ref hp, .ref hg, .int 0, .int 0, .int 0, .int td, .int sd])), (ho, .inl (cJ, 1, .inr (.inl fo)))] s.heap.size = A at hD hX0 ⊢
  have hX : z_X D A s s.heap := hX0
  have hA : ∀ q : Nat, s.heap.size ≤ q → A q := fun q h => by rw [← hAe]; exact Or.inr h
  have hS : va_S A s.heap s.heap [] := va_S.rf
  have hP : va_P D vwCl [(h0, .inr (6, [.ref hu, .ref hs, .ref hc, .ref hp, .ref hg, .int 0, .int 0, .int 0, .int td, .int sd])), (ho, .inl (cJ, 1, .inr (.inl fo)))] s.heap := hP
  have hl := lv_entry ([.ref h0, .int a0, .int a1, .ref ho]) (n := 5) (Nat.le_of_ble_eq_true rfl)
  rw [lg_entry_eq]
  generalize (lg_sl ([.ref h0, .int a0, .int a1, .ref ho]) ++ List.replicate (5 - (lg_sl ([.ref h0, .int a0, .int a1, .ref ho])).length) Slot.unset).toArray = ls at hl ⊢
  have hl : lv_has ls 5 [(0, .ref h0), (1, .int a0), (2, .int a1), (3, .ref ho)] := hl
  skip
  refine lv_aload_n hx hb dL_find_0 rfl (lv_at hl 3 rfl) ?_
  refine lv_iconst (v := 0) hx hb dL_find_1 (by decide) ?_
  refine lv_aload_n hx hb dL_find_2 rfl (lv_at hl 0 rfl) ?_
  refine lv_iload_n hx hb dL_find_3 rfl (lv_at hl 1 rfl) ?_
  refine lv_iload_n hx hb dL_find_4 rfl (lv_at hl 2 rfl) ?_
  obtain ⟨hb_1, hc_1⟩ := z_call (wc := [(h0, .inr (6, [.ref hu, .ref hs, .ref hc, .ref hp, .ref hg, .int 0, .int 0, .int 0, .int td, .int sd]))]) (tc := []) ([.ref h0, .int a0, .int a1]) hP hK hD hS hA hE hX [0] rfl rfl [] rfl
  have hF_1 := va_free (wc := [(h0, .inr (6, [.ref hu, .ref hs, .ref hc, .ref hp, .ref hg, .int 0, .int 0, .int 0, .int td, .int sd]))]) hD hS hA [0] rfl
  refine vx_calli (vx_runV (As := [.int a0, .int a1]) (rest := [.int 0, .ref ho]) ⟨hx, hb, hml, hown, hts⟩ (f_X4_find l hst D h0 hu hs hc hp hg td sd a0 a1 _ ) (z_cV 2 hE zw_649 zw_650 zw_651 zw_91 zw_652 rfl rfl rfl (by decide +kernel) ⟨(Nat.le_of_ble_eq_true rfl), (Nat.le_of_ble_eq_true rfl)⟩) ⟨hb_1, va_recv hK hP (ci := 6) (q0 := 0) rfl rfl, hc_1⟩ rfl rfl hl.1 rfl (lv_room (Nat.le_of_ble_eq_true rfl)) dL_find_5 ⟨(Nat.le_of_ble_eq_true rfl), (Nat.le_of_ble_eq_true rfl)⟩) hS (fun q _ h => hF_1 q h) hF_1 (fun q _ h => hF_1 q h) (fun E_1 ce_1 q9_1 u_1 t_1 H1 locs ht_1 hvm_1 hw_1 hB_1 hz_1 hk_1 hS1 hce_1 hcv_1 hcl_1 => ?_) (fun r_1 u_1 t_1 H1 locs ht_1 hvm_1 hw_1 hB_1 hz_1 hk_1 hS1 => ?_)
  · obtain ⟨rfl, hB_1⟩ := hB_1
    obtain ⟨hP, hK, hD⟩ := z_back (wc := [(h0, .inr (6, [.ref hu, .ref hs, .ref hc, .ref hp, .ref hg, .int 0, .int 0, .int 0, .int td, .int sd]))]) (wr := [(ho, .inl (cJ, 1, .inr (.inl fo)))]) (w1 := [(h0, .inr (6, [.ref hu, .ref hs, .ref hc, .ref hp, .ref hg, .int 0, .int 0, .int 0, .int td, .int sd]))]) (tr := [(cJ, .long)]) hP hK hD [0] [1] rfl rfl rfl (by decide) ht_1 hvm_1 hk_1 hF_1 [0] rfl hB_1
    have hS := hS1
    have hP : va_P D vwCl [(ho, .inl (cJ, 1, .inr (.inl fo))), (h0, .inr (6, [.ref hu, .ref hs, .ref hc, .ref hp, .ref hg, .int 0, .int 0, .int 0, .int td, .int sd]))] H1 := hP
    have hD : va_D A [(ho, .inl (cJ, 1, .inr (.inl fo))), (h0, .inr (6, [.ref hu, .ref hs, .ref hc, .ref hp, .ref hg, .int 0, .int 0, .int 0, .int td, .int sd]))] := hD
    have hK : va_K D vwCl [(cJ, .long)] s := hK
    clear hS1
    refine vx_catch (name := "java/lang/IndexOutOfBoundsException") hown [] ⟨0, 10, 13, 23⟩ [⟨0, 10, 17, 13⟩, ⟨0, 10, 21, 15⟩] (htb.trans rfl) (fun z hz => nomatch hz) (by decide) (by decide) (hts _ zw_520) (hts _ zw_531) hce_1 hcv_1 hcl_1 ?_
    refine lv_astore (lv' := [(4, .ref q9_1), (0, .ref h0), (1, .int a0), (2, .int a1), (3, .ref ho)]) hx hb dL_find_13 hl (by decide) rfl (fun ls hl => ?_)
    refine lv_iconst (v := 1) hx hb dL_find_15 (by decide) ?_
    exact vx_ret (W.iret (v := 1) hx hb hr (fun t ht hW => ⟨⟨1, (), rfl, rfl, z_end hP hK hD [1, 0] rfl rfl [0] rfl ht hW.alike⟩, hS.F ht⟩) hS.2.2 dL_find_16)
  · exact hw_1.elim
theorem dL_addShop_0 : decode cL_addShop 0 = .ok (.aload 7, 2) := by decide +kernel
theorem dL_addShop_2 : decode cL_addShop 2 = .ok (.iconst 0, 1) := by decide +kernel
theorem dL_addShop_3 : decode cL_addShop 3 = .ok (.aload_n 0, 1) := by decide +kernel
theorem dL_addShop_4 : decode cL_addShop 4 = .ok (.iload_n 1, 1) := by decide +kernel
theorem dL_addShop_5 : decode cL_addShop 5 = .ok (.iload_n 2, 1) := by decide +kernel
theorem dL_addShop_6 : decode cL_addShop 6 = .ok (.iload_n 3, 1) := by decide +kernel
theorem dL_addShop_7 : decode cL_addShop 7 = .ok (.iload 4, 2) := by decide +kernel
theorem dL_addShop_9 : decode cL_addShop 9 = .ok (.iload 5, 2) := by decide +kernel
theorem dL_addShop_11 : decode cL_addShop 11 = .ok (.iload 6, 2) := by decide +kernel
theorem dL_addShop_13 : decode cL_addShop 13 = .ok (.invokevirtual 53, 3) := by decide +kernel
theorem zw_657 : Cond.methodLink RL 53 yX4_addShop ∈ z_Ts := z_m 657 (by decide +kernel) (by decide +kernel)
theorem zw_658 : Cond.instanceMethod yX4_addShop ∈ z_Ts := z_m 658 (by decide +kernel) (by decide +kernel)
theorem zw_659 : Cond.selects RX4 yX4_addShop yX4_addShop ∈ z_Ts := z_m 659 (by decide +kernel) (by decide +kernel)
theorem zw_660 : Cond.code yX4_addShop cX4_addShop 8 (some .int) ∈ z_Ts := z_m 660 (by decide +kernel) (by decide +kernel)
theorem dL_addShop_21 : decode cL_addShop 21 = .ok (.astore 8, 2) := by decide +kernel
theorem dL_addShop_23 : decode cL_addShop 23 = .ok (.iconst 1, 1) := by decide +kernel
theorem dL_addShop_24 : decode cL_addShop 24 = .ok (.ireturn, 1) := by decide +kernel
set_option maxHeartbeats 4000000 in
set_option maxRecDepth 100000 in
theorem f_L_addShop (l : Launch) (hst : l.stackTraces = false) (D : va_G) (h0 : Nat) (hu : Nat) (hs : Nat) (hc : Nat) (hp : Nat) (hg : Nat) (td : Int32) (sd : Int32) (a0 : Int32) (a1 : Int32) (a2 : Int32) (a3 : Int32) (a4 : Int32) (a5 : Int32) (ho : Nat) (fo : Nat → Int64) (cJ : ClassId) (sz : Nat)  : vx_Met l yL_addShop [Cond.codeWith yL_addShop cL_addShop 9 (some .int) [(0, 18, 21, 23), (0, 18, 25, 13), (0, 18, 29, 15), (0, 18, 33, 17)]] ({ frames := 8, cells := 1, slots := 6, locals := 170 }) (z_Pc D [.ref h0, .int a0, .int a1, .int a2, .int a3, .int a4, .int a5, .ref ho] [(h0, .inr (6, [.ref hu, .ref hs, .ref hc, .ref hp, .ref hg, .int 0, .int 0, .int 0, .int td, .int sd])), (ho, .inl (cJ, 1, .inr (.inl fo)))] [(cJ, .long)] sz) (va_Qi (fun (r : Int32) (_ : Unit) => r = 1) (fun _ t => z_W D [(h0, .inr (6, [.ref hu, .ref hs, .ref hc, .ref hp, .ref hg, .int 0, .int 0, .int 0, .int td, .int sd])), (ho, .inl (cJ, 1, .inr (.inl fo)))] [(cJ, .long)] (va_A [(h0, .inr (6, [.ref hu, .ref hs, .ref hc, .ref hp, .ref hg, .int 0, .int 0, .int 0, .int td, .int sd])), (ho, .inl (cJ, 1, .inr (.inl fo)))] sz) t) (va_A [(h0, .inr (6, [.ref hu, .ref hs, .ref hc, .ref hp, .ref hg, .int 0, .int 0, .int 0, .int td, .int sd])), (ho, .inl (cJ, 1, .inr (.inl fo)))] sz)) (z_T (False) "none" D [(h0, .inr (6, [.ref hu, .ref hs, .ref hc, .ref hp, .ref hg, .int 0, .int 0, .int 0, .int td, .int sd])), (ho, .inl (cJ, 1, .inr (.inl fo)))] [(cJ, .long)] sz) 1 6 (va_A [(h0, .inr (6, [.ref hu, .ref hs, .ref hc, .ref hp, .ref hg, .int 0, .int 0, .int 0, .int td, .int sd])), (ho, .inl (cJ, 1, .inr (.inl fo)))] sz) := by
  refine vx_ofWH (cc := cL_addShop) (maxL := 9) (ret := (some .int)) (hh := [(0, 18, 21, 23), (0, 18, 25, 13), (0, 18, 29, 15), (0, 18, 33, 17)]) (by decide +kernel) rfl ?_
  intro p e s m args below meth c s₁ B hml hv
  obtain ⟨rfl, hsz, hP, hK, hD0, hE, hX0⟩ := hv
  have hx := B.exec
  have hb := B.bytes
  have hr := B.returns
  have hts := z_E.ts (args := [.ref h0, .int a0, .int a1, .int a2, .int a3, .int a4, .int a5, .ref ho].toArray) hE
  have hown : s.vm.findClass RL = some m.cls := findClass_of_methodNamed B.named
  have hlocks := B.notSynchronized
  have htb := vx_table (x := yL_addShop) B (atoms_spec (ws := [Cond.codeWith yL_addShop cL_addShop 9 (some .int) [(0, 18, 21, 23), (0, 18, 25, 13), (0, 18, 29, 15), (0, 18, 33, 17)]]) B.pre _ List.mem_cons_self)
  subst hsz
  have hD := hD0.self (sz := s.heap.size)
  generalize hAe : va_A [(h0, .inr (6, [.ref hu, .ref hs, .ref hc, .ref hp, .ref hg, .int 0, .int 0, .int 0, .int td, .int sd])), (ho, .inl (cJ, 1, .inr (.inl fo)))] s.heap.size = A at hD hX0 ⊢
  have hX : z_X D A s s.heap := hX0
  have hA : ∀ q : Nat, s.heap.size ≤ q → A q := fun q h => by rw [← hAe]; exact Or.inr h
  have hS : va_S A s.heap s.heap [] := va_S.rf
  have hP : va_P D vwCl [(h0, .inr (6, [.ref hu, .ref hs, .ref hc, .ref hp, .ref hg, .int 0, .int 0, .int 0, .int td, .int sd])), (ho, .inl (cJ, 1, .inr (.inl fo)))] s.heap := hP
  have hl := lv_entry ([.ref h0, .int a0, .int a1, .int a2, .int a3, .int a4, .int a5, .ref ho]) (n := 9) (Nat.le_of_ble_eq_true rfl)
  rw [lg_entry_eq]
  generalize (lg_sl ([.ref h0, .int a0, .int a1, .int a2, .int a3, .int a4, .int a5, .ref ho]) ++ List.replicate (9 - (lg_sl ([.ref h0, .int a0, .int a1, .int a2, .int a3, .int a4, .int a5, .ref ho])).length) Slot.unset).toArray = ls at hl ⊢
  have hl : lv_has ls 9 [(0, .ref h0), (1, .int a0), (2, .int a1), (3, .int a2), (4, .int a3), (5, .int a4), (6, .int a5), (7, .ref ho)] := hl
  skip
  refine lv_aload hx hb dL_addShop_0 (lv_at hl 7 rfl) ?_
  refine lv_iconst (v := 0) hx hb dL_addShop_2 (by decide) ?_
  refine lv_aload_n hx hb dL_addShop_3 rfl (lv_at hl 0 rfl) ?_
  refine lv_iload_n hx hb dL_addShop_4 rfl (lv_at hl 1 rfl) ?_
  refine lv_iload_n hx hb dL_addShop_5 rfl (lv_at hl 2 rfl) ?_
  refine lv_iload_n hx hb dL_addShop_6 rfl (lv_at hl 3 rfl) ?_
  refine lv_iload hx hb dL_addShop_7 (lv_at hl 4 rfl) ?_
  refine lv_iload hx hb dL_addShop_9 (lv_at hl 5 rfl) ?_
  refine lv_iload hx hb dL_addShop_11 (lv_at hl 6 rfl) ?_
  obtain ⟨hb_1, hc_1⟩ := z_call (wc := [(h0, .inr (6, [.ref hu, .ref hs, .ref hc, .ref hp, .ref hg, .int 0, .int 0, .int 0, .int td, .int sd]))]) (tc := []) ([.ref h0, .int a0, .int a1, .int a2, .int a3, .int a4, .int a5]) hP hK hD hS hA hE hX [0] rfl rfl [] rfl
  have hF_1 := va_free (wc := [(h0, .inr (6, [.ref hu, .ref hs, .ref hc, .ref hp, .ref hg, .int 0, .int 0, .int 0, .int td, .int sd]))]) hD hS hA [0] rfl
  refine vx_calli (vx_runV (As := [.int a0, .int a1, .int a2, .int a3, .int a4, .int a5]) (rest := [.int 0, .ref ho]) ⟨hx, hb, hml, hown, hts⟩ (f_X4_addShop l hst D h0 hu hs hc hp hg td sd a0 a1 a2 a3 a4 a5 _ ) (z_cV 6 hE zw_657 zw_658 zw_659 zw_91 zw_660 rfl rfl rfl (by decide +kernel) ⟨(Nat.le_of_ble_eq_true rfl), (Nat.le_of_ble_eq_true rfl)⟩) ⟨hb_1, va_recv hK hP (ci := 6) (q0 := 0) rfl rfl, hc_1⟩ rfl rfl hl.1 rfl (lv_room (Nat.le_of_ble_eq_true rfl)) dL_addShop_13 ⟨(Nat.le_of_ble_eq_true rfl), (Nat.le_of_ble_eq_true rfl)⟩) hS (fun q _ h => hF_1 q h) hF_1 (fun q _ h => hF_1 q h) (fun E_1 ce_1 q9_1 u_1 t_1 H1 locs ht_1 hvm_1 hw_1 hB_1 hz_1 hk_1 hS1 hce_1 hcv_1 hcl_1 => ?_) (fun r_1 u_1 t_1 H1 locs ht_1 hvm_1 hw_1 hB_1 hz_1 hk_1 hS1 => ?_)
  · obtain ⟨rfl, hB_1⟩ := hB_1
    obtain ⟨hP, hK, hD⟩ := z_back (wc := [(h0, .inr (6, [.ref hu, .ref hs, .ref hc, .ref hp, .ref hg, .int 0, .int 0, .int 0, .int td, .int sd]))]) (wr := [(ho, .inl (cJ, 1, .inr (.inl fo)))]) (w1 := [(h0, .inr (6, [.ref hu, .ref hs, .ref hc, .ref hp, .ref hg, .int 0, .int 0, .int 0, .int td, .int sd]))]) (tr := [(cJ, .long)]) hP hK hD [0] [1] rfl rfl rfl (by decide) ht_1 hvm_1 hk_1 hF_1 [0] rfl hB_1
    have hS := hS1
    have hP : va_P D vwCl [(ho, .inl (cJ, 1, .inr (.inl fo))), (h0, .inr (6, [.ref hu, .ref hs, .ref hc, .ref hp, .ref hg, .int 0, .int 0, .int 0, .int td, .int sd]))] H1 := hP
    have hD : va_D A [(ho, .inl (cJ, 1, .inr (.inl fo))), (h0, .inr (6, [.ref hu, .ref hs, .ref hc, .ref hp, .ref hg, .int 0, .int 0, .int 0, .int td, .int sd]))] := hD
    have hK : va_K D vwCl [(cJ, .long)] s := hK
    clear hS1
    refine vx_catch (name := "java/lang/IndexOutOfBoundsException") hown [] ⟨0, 18, 21, 23⟩ [⟨0, 18, 25, 13⟩, ⟨0, 18, 29, 15⟩, ⟨0, 18, 33, 17⟩] (htb.trans rfl) (fun z hz => nomatch hz) (by decide) (by decide) (hts _ zw_520) (hts _ zw_531) hce_1 hcv_1 hcl_1 ?_
    refine lv_astore (lv' := [(8, .ref q9_1), (0, .ref h0), (1, .int a0), (2, .int a1), (3, .int a2), (4, .int a3), (5, .int a4), (6, .int a5), (7, .ref ho)]) hx hb dL_addShop_21 hl (by decide) rfl (fun ls hl => ?_)
    refine lv_iconst (v := 1) hx hb dL_addShop_23 (by decide) ?_
    exact vx_ret (W.iret (v := 1) hx hb hr (fun t ht hW => ⟨⟨1, (), rfl, rfl, z_end hP hK hD [1, 0] rfl rfl [0] rfl ht hW.alike⟩, hS.F ht⟩) hS.2.2 dL_addShop_24)
  · exact hw_1.elim
theorem dL_flow_0 : decode cL_flow 0 = .ok (.aload_n 2, 1) := by decide +kernel
theorem dL_flow_1 : decode cL_flow 1 = .ok (.iconst 0, 1) := by decide +kernel
theorem dL_flow_2 : decode cL_flow 2 = .ok (.aload_n 0, 1) := by decide +kernel
theorem dL_flow_3 : decode cL_flow 3 = .ok (.iload_n 1, 1) := by decide +kernel
theorem dL_flow_4 : decode cL_flow 4 = .ok (.invokevirtual 91, 3) := by decide +kernel
theorem zw_801 : Cond.methodLink RL 91 yX4_flow ∈ z_Ts := z_m 801 (by decide +kernel) (by decide +kernel)
theorem zw_802 : Cond.instanceMethod yX4_flow ∈ z_Ts := z_m 802 (by decide +kernel) (by decide +kernel)
theorem zw_803 : Cond.selects RX4 yX4_flow yX4_flow ∈ z_Ts := z_m 803 (by decide +kernel) (by decide +kernel)
theorem zw_804 : Cond.code yX4_flow cX4_flow 2 (some .int) ∈ z_Ts := z_m 804 (by decide +kernel) (by decide +kernel)
theorem dL_flow_12 : decode cL_flow 12 = .ok (.astore_n 3, 1) := by decide +kernel
theorem dL_flow_13 : decode cL_flow 13 = .ok (.iconst 1, 1) := by decide +kernel
theorem dL_flow_14 : decode cL_flow 14 = .ok (.ireturn, 1) := by decide +kernel
set_option maxHeartbeats 4000000 in
set_option maxRecDepth 100000 in
theorem f_L_flow (l : Launch) (hst : l.stackTraces = false) (D : va_G) (h0 : Nat) (hu : Nat) (hs : Nat) (hc : Nat) (hp : Nat) (hg : Nat) (td : Int32) (sd : Int32) (a0 : Int32) (ho : Nat) (fo : Nat → Int64) (cJ : ClassId) (sz : Nat)  : vx_Met l yL_flow [Cond.codeWith yL_flow cL_flow 4 (some .int) [(0, 9, 12, 23)]] ({ frames := 8, cells := 1, slots := 6, locals := 170 }) (z_Pc D [.ref h0, .int a0, .ref ho] [(h0, .inr (6, [.ref hu, .ref hs, .ref hc, .ref hp, .ref hg, .int 0, .int 0, .int 0, .int td, .int sd])), (ho, .inl (cJ, 1, .inr (.inl fo)))] [(cJ, .long)] sz) (va_Qi (fun (r : Int32) (_ : Unit) => r = 1) (fun _ t => z_W D [(h0, .inr (6, [.ref hu, .ref hs, .ref hc, .ref hp, .ref hg, .int 0, .int 0, .int 0, .int td, .int sd])), (ho, .inl (cJ, 1, .inr (.inl fo)))] [(cJ, .long)] (va_A [(h0, .inr (6, [.ref hu, .ref hs, .ref hc, .ref hp, .ref hg, .int 0, .int 0, .int 0, .int td, .int sd])), (ho, .inl (cJ, 1, .inr (.inl fo)))] sz) t) (va_A [(h0, .inr (6, [.ref hu, .ref hs, .ref hc, .ref hp, .ref hg, .int 0, .int 0, .int 0, .int td, .int sd])), (ho, .inl (cJ, 1, .inr (.inl fo)))] sz)) (z_T (False) "none" D [(h0, .inr (6, [.ref hu, .ref hs, .ref hc, .ref hp, .ref hg, .int 0, .int 0, .int 0, .int td, .int sd])), (ho, .inl (cJ, 1, .inr (.inl fo)))] [(cJ, .long)] sz) 1 6 (va_A [(h0, .inr (6, [.ref hu, .ref hs, .ref hc, .ref hp, .ref hg, .int 0, .int 0, .int 0, .int td, .int sd])), (ho, .inl (cJ, 1, .inr (.inl fo)))] sz) := by
  refine vx_ofWH (cc := cL_flow) (maxL := 4) (ret := (some .int)) (hh := [(0, 9, 12, 23)]) (by decide +kernel) rfl ?_
  intro p e s m args below meth c s₁ B hml hv
  obtain ⟨rfl, hsz, hP, hK, hD0, hE, hX0⟩ := hv
  have hx := B.exec
  have hb := B.bytes
  have hr := B.returns
  have hts := z_E.ts (args := [.ref h0, .int a0, .ref ho].toArray) hE
  have hown : s.vm.findClass RL = some m.cls := findClass_of_methodNamed B.named
  have hlocks := B.notSynchronized
  have htb := vx_table (x := yL_flow) B (atoms_spec (ws := [Cond.codeWith yL_flow cL_flow 4 (some .int) [(0, 9, 12, 23)]]) B.pre _ List.mem_cons_self)
  subst hsz
  have hD := hD0.self (sz := s.heap.size)
  generalize hAe : va_A [(h0, .inr (6, [.ref hu, .ref hs, .ref hc, .ref hp, .ref hg, .int 0, .int 0, .int 0, .int td, .int sd])), (ho, .inl (cJ, 1, .inr (.inl fo)))] s.heap.size = A at hD hX0 ⊢
  have hX : z_X D A s s.heap := hX0
  have hA : ∀ q : Nat, s.heap.size ≤ q → A q := fun q h => by rw [← hAe]; exact Or.inr h
  have hS : va_S A s.heap s.heap [] := va_S.rf
  have hP : va_P D vwCl [(h0, .inr (6, [.ref hu, .ref hs, .ref hc, .ref hp, .ref hg, .int 0, .int 0, .int 0, .int td, .int sd])), (ho, .inl (cJ, 1, .inr (.inl fo)))] s.heap := hP
  have hl := lv_entry ([.ref h0, .int a0, .ref ho]) (n := 4) (Nat.le_of_ble_eq_true rfl)
  rw [lg_entry_eq]
  generalize (lg_sl ([.ref h0, .int a0, .ref ho]) ++ List.replicate (4 - (lg_sl ([.ref h0, .int a0, .ref ho])).length) Slot.unset).toArray = ls at hl ⊢
  have hl : lv_has ls 4 [(0, .ref h0), (1, .int a0), (2, .ref ho)] := hl
  skip
  refine lv_aload_n hx hb dL_flow_0 rfl (lv_at hl 2 rfl) ?_
  refine lv_iconst (v := 0) hx hb dL_flow_1 (by decide) ?_
  refine lv_aload_n hx hb dL_flow_2 rfl (lv_at hl 0 rfl) ?_
  refine lv_iload_n hx hb dL_flow_3 rfl (lv_at hl 1 rfl) ?_
  obtain ⟨hb_1, hc_1⟩ := z_call (wc := [(h0, .inr (6, [.ref hu, .ref hs, .ref hc, .ref hp, .ref hg, .int 0, .int 0, .int 0, .int td, .int sd]))]) (tc := []) ([.ref h0, .int a0]) hP hK hD hS hA hE hX [0] rfl rfl [] rfl
  have hF_1 := va_free (wc := [(h0, .inr (6, [.ref hu, .ref hs, .ref hc, .ref hp, .ref hg, .int 0, .int 0, .int 0, .int td, .int sd]))]) hD hS hA [0] rfl
  refine vx_calli (vx_runV (As := [.int a0]) (rest := [.int 0, .ref ho]) ⟨hx, hb, hml, hown, hts⟩ (f_X4_flow l hst D h0 hu hs hc hp hg td sd a0 _ ) (z_cV 1 hE zw_801 zw_802 zw_803 zw_91 zw_804 rfl rfl rfl (by decide +kernel) ⟨(Nat.le_of_ble_eq_true rfl), (Nat.le_of_ble_eq_true rfl)⟩) ⟨hb_1, va_recv hK hP (ci := 6) (q0 := 0) rfl rfl, hc_1⟩ rfl rfl hl.1 rfl (lv_room (Nat.le_of_ble_eq_true rfl)) dL_flow_4 ⟨(Nat.le_of_ble_eq_true rfl), (Nat.le_of_ble_eq_true rfl)⟩) hS (fun q _ h => hF_1 q h) hF_1 (fun q _ h => hF_1 q h) (fun E_1 ce_1 q9_1 u_1 t_1 H1 locs ht_1 hvm_1 hw_1 hB_1 hz_1 hk_1 hS1 hce_1 hcv_1 hcl_1 => ?_) (fun r_1 u_1 t_1 H1 locs ht_1 hvm_1 hw_1 hB_1 hz_1 hk_1 hS1 => ?_)
  · obtain ⟨rfl, hB_1⟩ := hB_1
    obtain ⟨hP, hK, hD⟩ := z_back (wc := [(h0, .inr (6, [.ref hu, .ref hs, .ref hc, .ref hp, .ref hg, .int 0, .int 0, .int 0, .int td, .int sd]))]) (wr := [(ho, .inl (cJ, 1, .inr (.inl fo)))]) (w1 := [(h0, .inr (6, [.ref hu, .ref hs, .ref hc, .ref hp, .ref hg, .int 0, .int 0, .int 0, .int td, .int sd]))]) (tr := [(cJ, .long)]) hP hK hD [0] [1] rfl rfl rfl (by decide) ht_1 hvm_1 hk_1 hF_1 [0] rfl hB_1
    have hS := hS1
    have hP : va_P D vwCl [(ho, .inl (cJ, 1, .inr (.inl fo))), (h0, .inr (6, [.ref hu, .ref hs, .ref hc, .ref hp, .ref hg, .int 0, .int 0, .int 0, .int td, .int sd]))] H1 := hP
    have hD : va_D A [(ho, .inl (cJ, 1, .inr (.inl fo))), (h0, .inr (6, [.ref hu, .ref hs, .ref hc, .ref hp, .ref hg, .int 0, .int 0, .int 0, .int td, .int sd]))] := hD
    have hK : va_K D vwCl [(cJ, .long)] s := hK
    clear hS1
    refine vx_catch (name := "java/lang/IndexOutOfBoundsException") hown [] ⟨0, 9, 12, 23⟩ [] (htb.trans rfl) (fun z hz => nomatch hz) (by decide) (by decide) (hts _ zw_520) (hts _ zw_531) hce_1 hcv_1 hcl_1 ?_
    refine lv_astore_n (lv' := [(3, .ref q9_1), (0, .ref h0), (1, .int a0), (2, .ref ho)]) hx hb dL_flow_12 rfl hl (by decide) rfl (fun ls hl => ?_)
    refine lv_iconst (v := 1) hx hb dL_flow_13 (by decide) ?_
    exact vx_ret (W.iret (v := 1) hx hb hr (fun t ht hW => ⟨⟨1, (), rfl, rfl, z_end hP hK hD [1, 0] rfl rfl [0] rfl ht hW.alike⟩, hS.F ht⟩) hS.2.2 dL_flow_14)
  · exact hw_1.elim
theorem dL_room_0 : decode cL_room 0 = .ok (.aload_n 2, 1) := by decide +kernel
theorem dL_room_1 : decode cL_room 1 = .ok (.iconst 0, 1) := by decide +kernel
theorem dL_room_2 : decode cL_room 2 = .ok (.aload_n 0, 1) := by decide +kernel
theorem dL_room_3 : decode cL_room 3 = .ok (.iload_n 1, 1) := by decide +kernel
theorem dL_room_4 : decode cL_room 4 = .ok (.invokevirtual 94, 3) := by decide +kernel
theorem zw_808 : Cond.methodLink RL 94 yX4_room ∈ z_Ts := z_m 808 (by decide +kernel) (by decide +kernel)
theorem zw_809 : Cond.instanceMethod yX4_room ∈ z_Ts := z_m 809 (by decide +kernel) (by decide +kernel)
theorem zw_810 : Cond.selects RX4 yX4_room yX4_room ∈ z_Ts := z_m 810 (by decide +kernel) (by decide +kernel)
theorem zw_811 : Cond.code yX4_room cX4_room 2 (some .int) ∈ z_Ts := z_m 811 (by decide +kernel) (by decide +kernel)
theorem dL_room_12 : decode cL_room 12 = .ok (.astore_n 3, 1) := by decide +kernel
theorem dL_room_13 : decode cL_room 13 = .ok (.iconst 1, 1) := by decide +kernel
theorem dL_room_14 : decode cL_room 14 = .ok (.ireturn, 1) := by decide +kernel
set_option maxHeartbeats 4000000 in
set_option maxRecDepth 100000 in
theorem f_L_room (l : Launch) (hst : l.stackTraces = false) (D : va_G) (h0 : Nat) (hu : Nat) (hs : Nat) (hc : Nat) (hp : Nat) (hg : Nat) (td : Int32) (sd : Int32) (a0 : Int32) (ho : Nat) (fo : Nat → Int64) (cJ : ClassId) (sz : Nat)  : vx_Met l yL_room [Cond.codeWith yL_room cL_room 4 (some .int) [(0, 9, 12, 23)]] ({ frames := 8, cells := 1, slots := 6, locals := 170 }) (z_Pc D [.ref h0, .int a0, .ref ho] [(h0, .inr (6, [.ref hu, .ref hs, .ref hc, .ref hp, .ref hg, .int 0, .int 0, .int 0, .int td, .int sd])), (ho, .inl (cJ, 1, .inr (.inl fo)))] [(cJ, .long)] sz) (va_Qi (fun (r : Int32) (_ : Unit) => r = 1) (fun _ t => z_W D [(h0, .inr (6, [.ref hu, .ref hs, .ref hc, .ref hp, .ref hg, .int 0, .int 0, .int 0, .int td, .int sd])), (ho, .inl (cJ, 1, .inr (.inl fo)))] [(cJ, .long)] (va_A [(h0, .inr (6, [.ref hu, .ref hs, .ref hc, .ref hp, .ref hg, .int 0, .int 0, .int 0, .int td, .int sd])), (ho, .inl (cJ, 1, .inr (.inl fo)))] sz) t) (va_A [(h0, .inr (6, [.ref hu, .ref hs, .ref hc, .ref hp, .ref hg, .int 0, .int 0, .int 0, .int td, .int sd])), (ho, .inl (cJ, 1, .inr (.inl fo)))] sz)) (z_T (False) "none" D [(h0, .inr (6, [.ref hu, .ref hs, .ref hc, .ref hp, .ref hg, .int 0, .int 0, .int 0, .int td, .int sd])), (ho, .inl (cJ, 1, .inr (.inl fo)))] [(cJ, .long)] sz) 1 6 (va_A [(h0, .inr (6, [.ref hu, .ref hs, .ref hc, .ref hp, .ref hg, .int 0, .int 0, .int 0, .int td, .int sd])), (ho, .inl (cJ, 1, .inr (.inl fo)))] sz) := by
  refine vx_ofWH (cc := cL_room) (maxL := 4) (ret := (some .int)) (hh := [(0, 9, 12, 23)]) (by decide +kernel) rfl ?_
  intro p e s m args below meth c s₁ B hml hv
  obtain ⟨rfl, hsz, hP, hK, hD0, hE, hX0⟩ := hv
  have hx := B.exec
  have hb := B.bytes
  have hr := B.returns
  have hts := z_E.ts (args := [.ref h0, .int a0, .ref ho].toArray) hE
  have hown : s.vm.findClass RL = some m.cls := findClass_of_methodNamed B.named
  have hlocks := B.notSynchronized
  have htb := vx_table (x := yL_room) B (atoms_spec (ws := [Cond.codeWith yL_room cL_room 4 (some .int) [(0, 9, 12, 23)]]) B.pre _ List.mem_cons_self)
  subst hsz
  have hD := hD0.self (sz := s.heap.size)
  generalize hAe : va_A [(h0, .inr (6, [.ref hu, .ref hs, .ref hc, .ref hp, .ref hg, .int 0, .int 0, .int 0, .int td, .int sd])), (ho, .inl (cJ, 1, .inr (.inl fo)))] s.heap.size = A at hD hX0 ⊢
  have hX : z_X D A s s.heap := hX0
  have hA : ∀ q : Nat, s.heap.size ≤ q → A q := fun q h => by rw [← hAe]; exact Or.inr h
  have hS : va_S A s.heap s.heap [] := va_S.rf
  have hP : va_P D vwCl [(h0, .inr (6, [.ref hu, .ref hs, .ref hc, .ref hp, .ref hg, .int 0, .int 0, .int 0, .int td, .int sd])), (ho, .inl (cJ, 1, .inr (.inl fo)))] s.heap := hP
  have hl := lv_entry ([.ref h0, .int a0, .ref ho]) (n := 4) (Nat.le_of_ble_eq_true rfl)
  rw [lg_entry_eq]
  generalize (lg_sl ([.ref h0, .int a0, .ref ho]) ++ List.replicate (4 - (lg_sl ([.ref h0, .int a0, .ref ho])).length) Slot.unset).toArray = ls at hl ⊢
  have hl : lv_has ls 4 [(0, .ref h0), (1, .int a0), (2, .ref ho)] := hl
  skip
  refine lv_aload_n hx hb dL_room_0 rfl (lv_at hl 2 rfl) ?_
  refine lv_iconst (v := 0) hx hb dL_room_1 (by decide) ?_
  refine lv_aload_n hx hb dL_room_2 rfl (lv_at hl 0 rfl) ?_
  refine lv_iload_n hx hb dL_room_3 rfl (lv_at hl 1 rfl) ?_
  obtain ⟨hb_1, hc_1⟩ := z_call (wc := [(h0, .inr (6, [.ref hu, .ref hs, .ref hc, .ref hp, .ref hg, .int 0, .int 0, .int 0, .int td, .int sd]))]) (tc := []) ([.ref h0, .int a0]) hP hK hD hS hA hE hX [0] rfl rfl [] rfl
  have hF_1 := va_free (wc := [(h0, .inr (6, [.ref hu, .ref hs, .ref hc, .ref hp, .ref hg, .int 0, .int 0, .int 0, .int td, .int sd]))]) hD hS hA [0] rfl
  refine vx_calli (vx_runV (As := [.int a0]) (rest := [.int 0, .ref ho]) ⟨hx, hb, hml, hown, hts⟩ (f_X4_room l hst D h0 hu hs hc hp hg td sd a0 _ ) (z_cV 1 hE zw_808 zw_809 zw_810 zw_91 zw_811 rfl rfl rfl (by decide +kernel) ⟨(Nat.le_of_ble_eq_true rfl), (Nat.le_of_ble_eq_true rfl)⟩) ⟨hb_1, va_recv hK hP (ci := 6) (q0 := 0) rfl rfl, hc_1⟩ rfl rfl hl.1 rfl (lv_room (Nat.le_of_ble_eq_true rfl)) dL_room_4 ⟨(Nat.le_of_ble_eq_true rfl), (Nat.le_of_ble_eq_true rfl)⟩) hS (fun q _ h => hF_1 q h) hF_1 (fun q _ h => hF_1 q h) (fun E_1 ce_1 q9_1 u_1 t_1 H1 locs ht_1 hvm_1 hw_1 hB_1 hz_1 hk_1 hS1 hce_1 hcv_1 hcl_1 => ?_) (fun r_1 u_1 t_1 H1 locs ht_1 hvm_1 hw_1 hB_1 hz_1 hk_1 hS1 => ?_)
  · obtain ⟨rfl, hB_1⟩ := hB_1
    obtain ⟨hP, hK, hD⟩ := z_back (wc := [(h0, .inr (6, [.ref hu, .ref hs, .ref hc, .ref hp, .ref hg, .int 0, .int 0, .int 0, .int td, .int sd]))]) (wr := [(ho, .inl (cJ, 1, .inr (.inl fo)))]) (w1 := [(h0, .inr (6, [.ref hu, .ref hs, .ref hc, .ref hp, .ref hg, .int 0, .int 0, .int 0, .int td, .int sd]))]) (tr := [(cJ, .long)]) hP hK hD [0] [1] rfl rfl rfl (by decide) ht_1 hvm_1 hk_1 hF_1 [0] rfl hB_1
    have hS := hS1
    have hP : va_P D vwCl [(ho, .inl (cJ, 1, .inr (.inl fo))), (h0, .inr (6, [.ref hu, .ref hs, .ref hc, .ref hp, .ref hg, .int 0, .int 0, .int 0, .int td, .int sd]))] H1 := hP
    have hD : va_D A [(ho, .inl (cJ, 1, .inr (.inl fo))), (h0, .inr (6, [.ref hu, .ref hs, .ref hc, .ref hp, .ref hg, .int 0, .int 0, .int 0, .int td, .int sd]))] := hD
    have hK : va_K D vwCl [(cJ, .long)] s := hK
    clear hS1
    refine vx_catch (name := "java/lang/IndexOutOfBoundsException") hown [] ⟨0, 9, 12, 23⟩ [] (htb.trans rfl) (fun z hz => nomatch hz) (by decide) (by decide) (hts _ zw_520) (hts _ zw_531) hce_1 hcv_1 hcl_1 ?_
    refine lv_astore_n (lv' := [(3, .ref q9_1), (0, .ref h0), (1, .int a0), (2, .ref ho)]) hx hb dL_room_12 rfl hl (by decide) rfl (fun ls hl => ?_)
    refine lv_iconst (v := 1) hx hb dL_room_13 (by decide) ?_
    exact vx_ret (W.iret (v := 1) hx hb hr (fun t ht hW => ⟨⟨1, (), rfl, rfl, z_end hP hK hD [1, 0] rfl rfl [0] rfl ht hW.alike⟩, hS.F ht⟩) hS.2.2 dL_room_14)
  · exact hw_1.elim
theorem dL_lostDays_0 : decode cL_lostDays 0 = .ok (.aload_n 3, 1) := by decide +kernel
theorem dL_lostDays_1 : decode cL_lostDays 1 = .ok (.iconst 0, 1) := by decide +kernel
theorem dL_lostDays_2 : decode cL_lostDays 2 = .ok (.aload_n 0, 1) := by decide +kernel
theorem dL_lostDays_3 : decode cL_lostDays 3 = .ok (.iload_n 1, 1) := by decide +kernel
theorem dL_lostDays_4 : decode cL_lostDays 4 = .ok (.iload_n 2, 1) := by decide +kernel
theorem dL_lostDays_5 : decode cL_lostDays 5 = .ok (.invokevirtual 116, 3) := by decide +kernel
theorem zw_915 : Cond.methodLink RL 116 yX4_lostDays ∈ z_Ts := z_m 915 (by decide +kernel) (by decide +kernel)
theorem zw_916 : Cond.instanceMethod yX4_lostDays ∈ z_Ts := z_m 916 (by decide +kernel) (by decide +kernel)
theorem zw_917 : Cond.selects RX4 yX4_lostDays yX4_lostDays ∈ z_Ts := z_m 917 (by decide +kernel) (by decide +kernel)
theorem zw_918 : Cond.code yX4_lostDays cX4_lostDays 4 (some .int) ∈ z_Ts := z_m 918 (by decide +kernel) (by decide +kernel)
theorem dL_lostDays_13 : decode cL_lostDays 13 = .ok (.astore 4, 2) := by decide +kernel
theorem dL_lostDays_15 : decode cL_lostDays 15 = .ok (.iconst 1, 1) := by decide +kernel
theorem dL_lostDays_16 : decode cL_lostDays 16 = .ok (.ireturn, 1) := by decide +kernel
set_option maxHeartbeats 4000000 in
set_option maxRecDepth 100000 in
theorem f_L_lostDays (l : Launch) (hst : l.stackTraces = false) (D : va_G) (h0 : Nat) (hu : Nat) (hs : Nat) (hc : Nat) (hp : Nat) (hg : Nat) (td : Int32) (sd : Int32) (a0 : Int32) (a1 : Int32) (ho : Nat) (fo : Nat → Int64) (cJ : ClassId) (sz : Nat)  : vx_Met l yL_lostDays [Cond.codeWith yL_lostDays cL_lostDays 5 (some .int) [(0, 10, 13, 23), (0, 10, 17, 13)]] ({ frames := 8, cells := 1, slots := 6, locals := 170 }) (z_Pc D [.ref h0, .int a0, .int a1, .ref ho] [(h0, .inr (6, [.ref hu, .ref hs, .ref hc, .ref hp, .ref hg, .int 0, .int 0, .int 0, .int td, .int sd])), (ho, .inl (cJ, 1, .inr (.inl fo)))] [(cJ, .long)] sz) (va_Qi (fun (r : Int32) (_ : Unit) => r = 1) (fun _ t => z_W D [(h0, .inr (6, [.ref hu, .ref hs, .ref hc, .ref hp, .ref hg, .int 0, .int 0, .int 0, .int td, .int sd])), (ho, .inl (cJ, 1, .inr (.inl fo)))] [(cJ, .long)] (va_A [(h0, .inr (6, [.ref hu, .ref hs, .ref hc, .ref hp, .ref hg, .int 0, .int 0, .int 0, .int td, .int sd])), (ho, .inl (cJ, 1, .inr (.inl fo)))] sz) t) (va_A [(h0, .inr (6, [.ref hu, .ref hs, .ref hc, .ref hp, .ref hg, .int 0, .int 0, .int 0, .int td, .int sd])), (ho, .inl (cJ, 1, .inr (.inl fo)))] sz)) (z_T (False) "none" D [(h0, .inr (6, [.ref hu, .ref hs, .ref hc, .ref hp, .ref hg, .int 0, .int 0, .int 0, .int td, .int sd])), (ho, .inl (cJ, 1, .inr (.inl fo)))] [(cJ, .long)] sz) 1 6 (va_A [(h0, .inr (6, [.ref hu, .ref hs, .ref hc, .ref hp, .ref hg, .int 0, .int 0, .int 0, .int td, .int sd])), (ho, .inl (cJ, 1, .inr (.inl fo)))] sz) := by
  refine vx_ofWH (cc := cL_lostDays) (maxL := 5) (ret := (some .int)) (hh := [(0, 10, 13, 23), (0, 10, 17, 13)]) (by decide +kernel) rfl ?_
  intro p e s m args below meth c s₁ B hml hv
  obtain ⟨rfl, hsz, hP, hK, hD0, hE, hX0⟩ := hv
  have hx := B.exec
  have hb := B.bytes
  have hr := B.returns
  have hts := z_E.ts (args := [.ref h0, .int a0, .int a1, .ref ho].toArray) hE
  have hown : s.vm.findClass RL = some m.cls := findClass_of_methodNamed B.named
  have hlocks := B.notSynchronized
  have htb := vx_table (x := yL_lostDays) B (atoms_spec (ws := [Cond.codeWith yL_lostDays cL_lostDays 5 (some .int) [(0, 10, 13, 23), (0, 10, 17, 13)]]) B.pre _ List.mem_cons_self)
  subst hsz
  have hD := hD0.self (sz := s.heap.size)
  generalize hAe : va_A [(h0, .inr (6, [.ref hu, .ref hs, .ref hc, .ref hp, .ref hg, .int 0, .int 0, .int 0, .int td, .int sd])), (ho, .inl (cJ, 1, .inr (.inl fo)))] s.heap.size = A at hD hX0 ⊢
  have hX : z_X D A s s.heap := hX0
  have hA : ∀ q : Nat, s.heap.size ≤ q → A q := fun q h => by rw [← hAe]; exact Or.inr h
  have hS : va_S A s.heap s.heap [] := va_S.rf
  have hP : va_P D vwCl [(h0, .inr (6, [.ref hu, .ref hs, .ref hc, .ref hp, .ref hg, .int 0, .int 0, .int 0, .int td, .int sd])), (ho, .inl (cJ, 1, .inr (.inl fo)))] s.heap := hP
  have hl := lv_entry ([.ref h0, .int a0, .int a1, .ref ho]) (n := 5) (Nat.le_of_ble_eq_true rfl)
  rw [lg_entry_eq]
  generalize (lg_sl ([.ref h0, .int a0, .int a1, .ref ho]) ++ List.replicate (5 - (lg_sl ([.ref h0, .int a0, .int a1, .ref ho])).length) Slot.unset).toArray = ls at hl ⊢
  have hl : lv_has ls 5 [(0, .ref h0), (1, .int a0), (2, .int a1), (3, .ref ho)] := hl
  skip
  refine lv_aload_n hx hb dL_lostDays_0 rfl (lv_at hl 3 rfl) ?_
  refine lv_iconst (v := 0) hx hb dL_lostDays_1 (by decide) ?_
  refine lv_aload_n hx hb dL_lostDays_2 rfl (lv_at hl 0 rfl) ?_
  refine lv_iload_n hx hb dL_lostDays_3 rfl (lv_at hl 1 rfl) ?_
  refine lv_iload_n hx hb dL_lostDays_4 rfl (lv_at hl 2 rfl) ?_
  obtain ⟨hb_1, hc_1⟩ := z_call (wc := [(h0, .inr (6, [.ref hu, .ref hs, .ref hc, .ref hp, .ref hg, .int 0, .int 0, .int 0, .int td, .int sd]))]) (tc := []) ([.ref h0, .int a0, .int a1]) hP hK hD hS hA hE hX [0] rfl rfl [] rfl
  have hF_1 := va_free (wc := [(h0, .inr (6, [.ref hu, .ref hs, .ref hc, .ref hp, .ref hg, .int 0, .int 0, .int 0, .int td, .int sd]))]) hD hS hA [0] rfl
  refine vx_calli (vx_runV (As := [.int a0, .int a1]) (rest := [.int 0, .ref ho]) ⟨hx, hb, hml, hown, hts⟩ (f_X4_lostDays l hst D h0 hu hs hc hp hg td sd a0 a1 _ ) (z_cV 2 hE zw_915 zw_916 zw_917 zw_91 zw_918 rfl rfl rfl (by decide +kernel) ⟨(Nat.le_of_ble_eq_true rfl), (Nat.le_of_ble_eq_true rfl)⟩) ⟨hb_1, va_recv hK hP (ci := 6) (q0 := 0) rfl rfl, hc_1⟩ rfl rfl hl.1 rfl (lv_room (Nat.le_of_ble_eq_true rfl)) dL_lostDays_5 ⟨(Nat.le_of_ble_eq_true rfl), (Nat.le_of_ble_eq_true rfl)⟩) hS (fun q _ h => hF_1 q h) hF_1 (fun q _ h => hF_1 q h) (fun E_1 ce_1 q9_1 u_1 t_1 H1 locs ht_1 hvm_1 hw_1 hB_1 hz_1 hk_1 hS1 hce_1 hcv_1 hcl_1 => ?_) (fun r_1 u_1 t_1 H1 locs ht_1 hvm_1 hw_1 hB_1 hz_1 hk_1 hS1 => ?_)
  · obtain ⟨rfl, hB_1⟩ := hB_1
    obtain ⟨hP, hK, hD⟩ := z_back (wc := [(h0, .inr (6, [.ref hu, .ref hs, .ref hc, .ref hp, .ref hg, .int 0, .int 0, .int 0, .int td, .int sd]))]) (wr := [(ho, .inl (cJ, 1, .inr (.inl fo)))]) (w1 := [(h0, .inr (6, [.ref hu, .ref hs, .ref hc, .ref hp, .ref hg, .int 0, .int 0, .int 0, .int td, .int sd]))]) (tr := [(cJ, .long)]) hP hK hD [0] [1] rfl rfl rfl (by decide) ht_1 hvm_1 hk_1 hF_1 [0] rfl hB_1
    have hS := hS1
    have hP : va_P D vwCl [(ho, .inl (cJ, 1, .inr (.inl fo))), (h0, .inr (6, [.ref hu, .ref hs, .ref hc, .ref hp, .ref hg, .int 0, .int 0, .int 0, .int td, .int sd]))] H1 := hP
    have hD : va_D A [(ho, .inl (cJ, 1, .inr (.inl fo))), (h0, .inr (6, [.ref hu, .ref hs, .ref hc, .ref hp, .ref hg, .int 0, .int 0, .int 0, .int td, .int sd]))] := hD
    have hK : va_K D vwCl [(cJ, .long)] s := hK
    clear hS1
    refine vx_catch (name := "java/lang/IndexOutOfBoundsException") hown [] ⟨0, 10, 13, 23⟩ [⟨0, 10, 17, 13⟩] (htb.trans rfl) (fun z hz => nomatch hz) (by decide) (by decide) (hts _ zw_520) (hts _ zw_531) hce_1 hcv_1 hcl_1 ?_
    refine lv_astore (lv' := [(4, .ref q9_1), (0, .ref h0), (1, .int a0), (2, .int a1), (3, .ref ho)]) hx hb dL_lostDays_13 hl (by decide) rfl (fun ls hl => ?_)
    refine lv_iconst (v := 1) hx hb dL_lostDays_15 (by decide) ?_
    exact vx_ret (W.iret (v := 1) hx hb hr (fun t ht hW => ⟨⟨1, (), rfl, rfl, z_end hP hK hD [1, 0] rfl rfl [0] rfl ht hW.alike⟩, hS.F ht⟩) hS.2.2 dL_lostDays_16)
  · exact hw_1.elim
theorem dL_startIn_0 : decode cL_startIn 0 = .ok (.aload_n 2, 1) := by decide +kernel
theorem dL_startIn_1 : decode cL_startIn 1 = .ok (.iconst 0, 1) := by decide +kernel
theorem dL_startIn_2 : decode cL_startIn 2 = .ok (.aload_n 0, 1) := by decide +kernel
theorem dL_startIn_3 : decode cL_startIn 3 = .ok (.iload_n 1, 1) := by decide +kernel
theorem dL_startIn_4 : decode cL_startIn 4 = .ok (.invokevirtual 124, 3) := by decide +kernel
theorem zw_996 : Cond.methodLink RL 124 yX4_startIn ∈ z_Ts := z_m 996 (by decide +kernel) (by decide +kernel)
theorem zw_997 : Cond.instanceMethod yX4_startIn ∈ z_Ts := z_m 997 (by decide +kernel) (by decide +kernel)
theorem zw_998 : Cond.selects RX4 yX4_startIn yX4_startIn ∈ z_Ts := z_m 998 (by decide +kernel) (by decide +kernel)
theorem zw_999 : Cond.code yX4_startIn cX4_startIn 2 (some .int) ∈ z_Ts := z_m 999 (by decide +kernel) (by decide +kernel)
theorem dL_startIn_12 : decode cL_startIn 12 = .ok (.astore_n 3, 1) := by decide +kernel
theorem dL_startIn_13 : decode cL_startIn 13 = .ok (.iconst 1, 1) := by decide +kernel
theorem dL_startIn_14 : decode cL_startIn 14 = .ok (.ireturn, 1) := by decide +kernel
set_option maxHeartbeats 4000000 in
set_option maxRecDepth 100000 in
theorem f_L_startIn (l : Launch) (hst : l.stackTraces = false) (D : va_G) (h0 : Nat) (hu : Nat) (hs : Nat) (hc : Nat) (hp : Nat) (hg : Nat) (td : Int32) (sd : Int32) (a0 : Int32) (ho : Nat) (fo : Nat → Int64) (cJ : ClassId) (sz : Nat)  : vx_Met l yL_startIn [Cond.codeWith yL_startIn cL_startIn 4 (some .int) [(0, 9, 12, 23), (0, 9, 15, 15), (0, 9, 18, 39)]] ({ frames := 8, cells := 1, slots := 6, locals := 170 }) (z_Pc D [.ref h0, .int a0, .ref ho] [(h0, .inr (6, [.ref hu, .ref hs, .ref hc, .ref hp, .ref hg, .int 0, .int 0, .int 0, .int td, .int sd])), (ho, .inl (cJ, 1, .inr (.inl fo)))] [(cJ, .long)] sz) (va_Qi (fun (r : Int32) (_ : Unit) => r = 1) (fun _ t => z_W D [(h0, .inr (6, [.ref hu, .ref hs, .ref hc, .ref hp, .ref hg, .int 0, .int 0, .int 0, .int td, .int sd])), (ho, .inl (cJ, 1, .inr (.inl fo)))] [(cJ, .long)] (va_A [(h0, .inr (6, [.ref hu, .ref hs, .ref hc, .ref hp, .ref hg, .int 0, .int 0, .int 0, .int td, .int sd])), (ho, .inl (cJ, 1, .inr (.inl fo)))] sz) t) (va_A [(h0, .inr (6, [.ref hu, .ref hs, .ref hc, .ref hp, .ref hg, .int 0, .int 0, .int 0, .int td, .int sd])), (ho, .inl (cJ, 1, .inr (.inl fo)))] sz)) (z_T (False) "none" D [(h0, .inr (6, [.ref hu, .ref hs, .ref hc, .ref hp, .ref hg, .int 0, .int 0, .int 0, .int td, .int sd])), (ho, .inl (cJ, 1, .inr (.inl fo)))] [(cJ, .long)] sz) 1 6 (va_A [(h0, .inr (6, [.ref hu, .ref hs, .ref hc, .ref hp, .ref hg, .int 0, .int 0, .int 0, .int td, .int sd])), (ho, .inl (cJ, 1, .inr (.inl fo)))] sz) := by
  refine vx_ofWH (cc := cL_startIn) (maxL := 4) (ret := (some .int)) (hh := [(0, 9, 12, 23), (0, 9, 15, 15), (0, 9, 18, 39)]) (by decide +kernel) rfl ?_
  intro p e s m args below meth c s₁ B hml hv
  obtain ⟨rfl, hsz, hP, hK, hD0, hE, hX0⟩ := hv
  have hx := B.exec
  have hb := B.bytes
  have hr := B.returns
  have hts := z_E.ts (args := [.ref h0, .int a0, .ref ho].toArray) hE
  have hown : s.vm.findClass RL = some m.cls := findClass_of_methodNamed B.named
  have hlocks := B.notSynchronized
  have htb := vx_table (x := yL_startIn) B (atoms_spec (ws := [Cond.codeWith yL_startIn cL_startIn 4 (some .int) [(0, 9, 12, 23), (0, 9, 15, 15), (0, 9, 18, 39)]]) B.pre _ List.mem_cons_self)
  subst hsz
  have hD := hD0.self (sz := s.heap.size)
  generalize hAe : va_A [(h0, .inr (6, [.ref hu, .ref hs, .ref hc, .ref hp, .ref hg, .int 0, .int 0, .int 0, .int td, .int sd])), (ho, .inl (cJ, 1, .inr (.inl fo)))] s.heap.size = A at hD hX0 ⊢
  have hX : z_X D A s s.heap := hX0
  have hA : ∀ q : Nat, s.heap.size ≤ q → A q := fun q h => by rw [← hAe]; exact Or.inr h
  have hS : va_S A s.heap s.heap [] := va_S.rf
  have hP : va_P D vwCl [(h0, .inr (6, [.ref hu, .ref hs, .ref hc, .ref hp, .ref hg, .int 0, .int 0, .int 0, .int td, .int sd])), (ho, .inl (cJ, 1, .inr (.inl fo)))] s.heap := hP
  have hl := lv_entry ([.ref h0, .int a0, .ref ho]) (n := 4) (Nat.le_of_ble_eq_true rfl)
  rw [lg_entry_eq]
  generalize (lg_sl ([.ref h0, .int a0, .ref ho]) ++ List.replicate (4 - (lg_sl ([.ref h0, .int a0, .ref ho])).length) Slot.unset).toArray = ls at hl ⊢
  have hl : lv_has ls 4 [(0, .ref h0), (1, .int a0), (2, .ref ho)] := hl
  skip
  refine lv_aload_n hx hb dL_startIn_0 rfl (lv_at hl 2 rfl) ?_
  refine lv_iconst (v := 0) hx hb dL_startIn_1 (by decide) ?_
  refine lv_aload_n hx hb dL_startIn_2 rfl (lv_at hl 0 rfl) ?_
  refine lv_iload_n hx hb dL_startIn_3 rfl (lv_at hl 1 rfl) ?_
  obtain ⟨hb_1, hc_1⟩ := z_call (wc := [(h0, .inr (6, [.ref hu, .ref hs, .ref hc, .ref hp, .ref hg, .int 0, .int 0, .int 0, .int td, .int sd]))]) (tc := []) ([.ref h0, .int a0]) hP hK hD hS hA hE hX [0] rfl rfl [] rfl
  have hF_1 := va_free (wc := [(h0, .inr (6, [.ref hu, .ref hs, .ref hc, .ref hp, .ref hg, .int 0, .int 0, .int 0, .int td, .int sd]))]) hD hS hA [0] rfl
  refine vx_calli (vx_runV (As := [.int a0]) (rest := [.int 0, .ref ho]) ⟨hx, hb, hml, hown, hts⟩ (f_X4_startIn l hst D h0 hu hs hc hp hg td sd a0 _ ) (z_cV 1 hE zw_996 zw_997 zw_998 zw_91 zw_999 rfl rfl rfl (by decide +kernel) ⟨(Nat.le_of_ble_eq_true rfl), (Nat.le_of_ble_eq_true rfl)⟩) ⟨hb_1, va_recv hK hP (ci := 6) (q0 := 0) rfl rfl, hc_1⟩ rfl rfl hl.1 rfl (lv_room (Nat.le_of_ble_eq_true rfl)) dL_startIn_4 ⟨(Nat.le_of_ble_eq_true rfl), (Nat.le_of_ble_eq_true rfl)⟩) hS (fun q _ h => hF_1 q h) hF_1 (fun q _ h => hF_1 q h) (fun E_1 ce_1 q9_1 u_1 t_1 H1 locs ht_1 hvm_1 hw_1 hB_1 hz_1 hk_1 hS1 hce_1 hcv_1 hcl_1 => ?_) (fun r_1 u_1 t_1 H1 locs ht_1 hvm_1 hw_1 hB_1 hz_1 hk_1 hS1 => ?_)
  · obtain ⟨rfl, hB_1⟩ := hB_1
    obtain ⟨hP, hK, hD⟩ := z_back (wc := [(h0, .inr (6, [.ref hu, .ref hs, .ref hc, .ref hp, .ref hg, .int 0, .int 0, .int 0, .int td, .int sd]))]) (wr := [(ho, .inl (cJ, 1, .inr (.inl fo)))]) (w1 := [(h0, .inr (6, [.ref hu, .ref hs, .ref hc, .ref hp, .ref hg, .int 0, .int 0, .int 0, .int td, .int sd]))]) (tr := [(cJ, .long)]) hP hK hD [0] [1] rfl rfl rfl (by decide) ht_1 hvm_1 hk_1 hF_1 [0] rfl hB_1
    have hS := hS1
    have hP : va_P D vwCl [(ho, .inl (cJ, 1, .inr (.inl fo))), (h0, .inr (6, [.ref hu, .ref hs, .ref hc, .ref hp, .ref hg, .int 0, .int 0, .int 0, .int td, .int sd]))] H1 := hP
    have hD : va_D A [(ho, .inl (cJ, 1, .inr (.inl fo))), (h0, .inr (6, [.ref hu, .ref hs, .ref hc, .ref hp, .ref hg, .int 0, .int 0, .int 0, .int td, .int sd]))] := hD
    have hK : va_K D vwCl [(cJ, .long)] s := hK
    clear hS1
    refine vx_catch (name := "java/lang/IndexOutOfBoundsException") hown [] ⟨0, 9, 12, 23⟩ [⟨0, 9, 15, 15⟩, ⟨0, 9, 18, 39⟩] (htb.trans rfl) (fun z hz => nomatch hz) (by decide) (by decide) (hts _ zw_520) (hts _ zw_531) hce_1 hcv_1 hcl_1 ?_
    refine lv_astore_n (lv' := [(3, .ref q9_1), (0, .ref h0), (1, .int a0), (2, .ref ho)]) hx hb dL_startIn_12 rfl hl (by decide) rfl (fun ls hl => ?_)
    refine lv_iconst (v := 1) hx hb dL_startIn_13 (by decide) ?_
    exact vx_ret (W.iret (v := 1) hx hb hr (fun t ht hW => ⟨⟨1, (), rfl, rfl, z_end hP hK hD [1, 0] rfl rfl [0] rfl ht hW.alike⟩, hS.F ht⟩) hS.2.2 dL_startIn_14)
  · exact hw_1.elim
theorem dL_state_0 : decode cL_state 0 = .ok (.aload_n 2, 1) := by decide +kernel
theorem dL_state_1 : decode cL_state 1 = .ok (.iconst 0, 1) := by decide +kernel
theorem dL_state_2 : decode cL_state 2 = .ok (.aload_n 0, 1) := by decide +kernel
theorem dL_state_3 : decode cL_state 3 = .ok (.iload_n 1, 1) := by decide +kernel
theorem dL_state_4 : decode cL_state 4 = .ok (.invokevirtual 57, 3) := by decide +kernel
theorem zw_674 : Cond.methodLink RL 57 yX4_state ∈ z_Ts := z_m 674 (by decide +kernel) (by decide +kernel)
theorem zw_675 : Cond.instanceMethod yX4_state ∈ z_Ts := z_m 675 (by decide +kernel) (by decide +kernel)
theorem zw_676 : Cond.selects RX4 yX4_state yX4_state ∈ z_Ts := z_m 676 (by decide +kernel) (by decide +kernel)
theorem zw_677 : Cond.code yX4_state cX4_state 2 (some .char) ∈ z_Ts := z_m 677 (by decide +kernel) (by decide +kernel)
theorem dL_state_12 : decode cL_state 12 = .ok (.astore_n 3, 1) := by decide +kernel
theorem dL_state_13 : decode cL_state 13 = .ok (.iconst 1, 1) := by decide +kernel
theorem dL_state_14 : decode cL_state 14 = .ok (.ireturn, 1) := by decide +kernel
set_option maxHeartbeats 4000000 in
set_option maxRecDepth 100000 in
theorem f_L_state (l : Launch) (hst : l.stackTraces = false) (D : va_G) (h0 : Nat) (hu : Nat) (hs : Nat) (hc : Nat) (hp : Nat) (hg : Nat) (td : Int32) (sd : Int32) (a0 : Int32) (ho : Nat) (fo : Nat → Int64) (cJ : ClassId) (sz : Nat)  : vx_Met l yL_state [Cond.codeWith yL_state cL_state 4 (some .int) [(0, 9, 12, 23)]] ({ frames := 8, cells := 1, slots := 6, locals := 170 }) (z_Pc D [.ref h0, .int a0, .ref ho] [(h0, .inr (6, [.ref hu, .ref hs, .ref hc, .ref hp, .ref hg, .int 0, .int 0, .int 0, .int td, .int sd])), (ho, .inl (cJ, 1, .inr (.inl fo)))] [(cJ, .long)] sz) (va_Qi (fun (r : Int32) (_ : Unit) => r = 1) (fun _ t => z_W D [(h0, .inr (6, [.ref hu, .ref hs, .ref hc, .ref hp, .ref hg, .int 0, .int 0, .int 0, .int td, .int sd])), (ho, .inl (cJ, 1, .inr (.inl fo)))] [(cJ, .long)] (va_A [(h0, .inr (6, [.ref hu, .ref hs, .ref hc, .ref hp, .ref hg, .int 0, .int 0, .int 0, .int td, .int sd])), (ho, .inl (cJ, 1, .inr (.inl fo)))] sz) t) (va_A [(h0, .inr (6, [.ref hu, .ref hs, .ref hc, .ref hp, .ref hg, .int 0, .int 0, .int 0, .int td, .int sd])), (ho, .inl (cJ, 1, .inr (.inl fo)))] sz)) (z_T (False) "none" D [(h0, .inr (6, [.ref hu, .ref hs, .ref hc, .ref hp, .ref hg, .int 0, .int 0, .int 0, .int td, .int sd])), (ho, .inl (cJ, 1, .inr (.inl fo)))] [(cJ, .long)] sz) 1 6 (va_A [(h0, .inr (6, [.ref hu, .ref hs, .ref hc, .ref hp, .ref hg, .int 0, .int 0, .int 0, .int td, .int sd])), (ho, .inl (cJ, 1, .inr (.inl fo)))] sz) := by
  refine vx_ofWH (cc := cL_state) (maxL := 4) (ret := (some .int)) (hh := [(0, 9, 12, 23)]) (by decide +kernel) rfl ?_
  intro p e s m args below meth c s₁ B hml hv
  obtain ⟨rfl, hsz, hP, hK, hD0, hE, hX0⟩ := hv
  have hx := B.exec
  have hb := B.bytes
  have hr := B.returns
  have hts := z_E.ts (args := [.ref h0, .int a0, .ref ho].toArray) hE
  have hown : s.vm.findClass RL = some m.cls := findClass_of_methodNamed B.named
  have hlocks := B.notSynchronized
  have htb := vx_table (x := yL_state) B (atoms_spec (ws := [Cond.codeWith yL_state cL_state 4 (some .int) [(0, 9, 12, 23)]]) B.pre _ List.mem_cons_self)
  subst hsz
  have hD := hD0.self (sz := s.heap.size)
  generalize hAe : va_A [(h0, .inr (6, [.ref hu, .ref hs, .ref hc, .ref hp, .ref hg, .int 0, .int 0, .int 0, .int td, .int sd])), (ho, .inl (cJ, 1, .inr (.inl fo)))] s.heap.size = A at hD hX0 ⊢
  have hX : z_X D A s s.heap := hX0
  have hA : ∀ q : Nat, s.heap.size ≤ q → A q := fun q h => by rw [← hAe]; exact Or.inr h
  have hS : va_S A s.heap s.heap [] := va_S.rf
  have hP : va_P D vwCl [(h0, .inr (6, [.ref hu, .ref hs, .ref hc, .ref hp, .ref hg, .int 0, .int 0, .int 0, .int td, .int sd])), (ho, .inl (cJ, 1, .inr (.inl fo)))] s.heap := hP
  have hl := lv_entry ([.ref h0, .int a0, .ref ho]) (n := 4) (Nat.le_of_ble_eq_true rfl)
  rw [lg_entry_eq]
  generalize (lg_sl ([.ref h0, .int a0, .ref ho]) ++ List.replicate (4 - (lg_sl ([.ref h0, .int a0, .ref ho])).length) Slot.unset).toArray = ls at hl ⊢
  have hl : lv_has ls 4 [(0, .ref h0), (1, .int a0), (2, .ref ho)] := hl
  skip
  refine lv_aload_n hx hb dL_state_0 rfl (lv_at hl 2 rfl) ?_
  refine lv_iconst (v := 0) hx hb dL_state_1 (by decide) ?_
  refine lv_aload_n hx hb dL_state_2 rfl (lv_at hl 0 rfl) ?_
  refine lv_iload_n hx hb dL_state_3 rfl (lv_at hl 1 rfl) ?_
  obtain ⟨hb_1, hc_1⟩ := z_call (wc := [(h0, .inr (6, [.ref hu, .ref hs, .ref hc, .ref hp, .ref hg, .int 0, .int 0, .int 0, .int td, .int sd]))]) (tc := []) ([.ref h0, .int a0]) hP hK hD hS hA hE hX [0] rfl rfl [] rfl
  have hF_1 := va_free (wc := [(h0, .inr (6, [.ref hu, .ref hs, .ref hc, .ref hp, .ref hg, .int 0, .int 0, .int 0, .int td, .int sd]))]) hD hS hA [0] rfl
  refine vx_calli (vx_runV (As := [.int a0]) (rest := [.int 0, .ref ho]) ⟨hx, hb, hml, hown, hts⟩ (f_X4_state l hst D h0 hu hs hc hp hg td sd a0 _ ) (z_cV 1 hE zw_674 zw_675 zw_676 zw_91 zw_677 rfl rfl rfl (by decide +kernel) ⟨(Nat.le_of_ble_eq_true rfl), (Nat.le_of_ble_eq_true rfl)⟩) ⟨hb_1, va_recv hK hP (ci := 6) (q0 := 0) rfl rfl, hc_1⟩ rfl rfl hl.1 rfl (lv_room (Nat.le_of_ble_eq_true rfl)) dL_state_4 ⟨(Nat.le_of_ble_eq_true rfl), (Nat.le_of_ble_eq_true rfl)⟩) hS (fun q _ h => hF_1 q h) hF_1 (fun q _ h => hF_1 q h) (fun E_1 ce_1 q9_1 u_1 t_1 H1 locs ht_1 hvm_1 hw_1 hB_1 hz_1 hk_1 hS1 hce_1 hcv_1 hcl_1 => ?_) (fun r_1 u_1 t_1 H1 locs ht_1 hvm_1 hw_1 hB_1 hz_1 hk_1 hS1 => ?_)
  · obtain ⟨rfl, hB_1⟩ := hB_1
    obtain ⟨hP, hK, hD⟩ := z_back (wc := [(h0, .inr (6, [.ref hu, .ref hs, .ref hc, .ref hp, .ref hg, .int 0, .int 0, .int 0, .int td, .int sd]))]) (wr := [(ho, .inl (cJ, 1, .inr (.inl fo)))]) (w1 := [(h0, .inr (6, [.ref hu, .ref hs, .ref hc, .ref hp, .ref hg, .int 0, .int 0, .int 0, .int td, .int sd]))]) (tr := [(cJ, .long)]) hP hK hD [0] [1] rfl rfl rfl (by decide) ht_1 hvm_1 hk_1 hF_1 [0] rfl hB_1
    have hS := hS1
    have hP : va_P D vwCl [(ho, .inl (cJ, 1, .inr (.inl fo))), (h0, .inr (6, [.ref hu, .ref hs, .ref hc, .ref hp, .ref hg, .int 0, .int 0, .int 0, .int td, .int sd]))] H1 := hP
    have hD : va_D A [(ho, .inl (cJ, 1, .inr (.inl fo))), (h0, .inr (6, [.ref hu, .ref hs, .ref hc, .ref hp, .ref hg, .int 0, .int 0, .int 0, .int td, .int sd]))] := hD
    have hK : va_K D vwCl [(cJ, .long)] s := hK
    clear hS1
    refine vx_catch (name := "java/lang/IndexOutOfBoundsException") hown [] ⟨0, 9, 12, 23⟩ [] (htb.trans rfl) (fun z hz => nomatch hz) (by decide) (by decide) (hts _ zw_520) (hts _ zw_531) hce_1 hcv_1 hcl_1 ?_
    refine lv_astore_n (lv' := [(3, .ref q9_1), (0, .ref h0), (1, .int a0), (2, .ref ho)]) hx hb dL_state_12 rfl hl (by decide) rfl (fun ls hl => ?_)
    refine lv_iconst (v := 1) hx hb dL_state_13 (by decide) ?_
    exact vx_ret (W.iret (v := 1) hx hb hr (fun t ht hW => ⟨⟨1, (), rfl, rfl, z_end hP hK hD [1, 0] rfl rfl [0] rfl ht hW.alike⟩, hS.F ht⟩) hS.2.2 dL_state_14)
  · exact hw_1.elim
theorem dL_unitOf_0 : decode cL_unitOf 0 = .ok (.aload_n 2, 1) := by decide +kernel
theorem dL_unitOf_1 : decode cL_unitOf 1 = .ok (.iconst 0, 1) := by decide +kernel
theorem dL_unitOf_2 : decode cL_unitOf 2 = .ok (.aload_n 0, 1) := by decide +kernel
theorem dL_unitOf_3 : decode cL_unitOf 3 = .ok (.iload_n 1, 1) := by decide +kernel
theorem dL_unitOf_4 : decode cL_unitOf 4 = .ok (.invokevirtual 60, 3) := by decide +kernel
theorem zw_686 : Cond.methodLink RL 60 yX4_unitOf ∈ z_Ts := z_m 686 (by decide +kernel) (by decide +kernel)
theorem zw_687 : Cond.instanceMethod yX4_unitOf ∈ z_Ts := z_m 687 (by decide +kernel) (by decide +kernel)
theorem zw_688 : Cond.selects RX4 yX4_unitOf yX4_unitOf ∈ z_Ts := z_m 688 (by decide +kernel) (by decide +kernel)
theorem zw_689 : Cond.code yX4_unitOf cX4_unitOf 2 (some .int) ∈ z_Ts := z_m 689 (by decide +kernel) (by decide +kernel)
theorem dL_unitOf_12 : decode cL_unitOf 12 = .ok (.astore_n 3, 1) := by decide +kernel
theorem dL_unitOf_13 : decode cL_unitOf 13 = .ok (.iconst 1, 1) := by decide +kernel
theorem dL_unitOf_14 : decode cL_unitOf 14 = .ok (.ireturn, 1) := by decide +kernel
set_option maxHeartbeats 4000000 in
set_option maxRecDepth 100000 in
theorem f_L_unitOf (l : Launch) (hst : l.stackTraces = false) (D : va_G) (h0 : Nat) (hu : Nat) (hs : Nat) (hc : Nat) (hp : Nat) (hg : Nat) (td : Int32) (sd : Int32) (a0 : Int32) (ho : Nat) (fo : Nat → Int64) (cJ : ClassId) (sz : Nat)  : vx_Met l yL_unitOf [Cond.codeWith yL_unitOf cL_unitOf 4 (some .int) [(0, 9, 12, 23), (0, 9, 15, 39)]] ({ frames := 8, cells := 1, slots := 6, locals := 170 }) (z_Pc D [.ref h0, .int a0, .ref ho] [(h0, .inr (6, [.ref hu, .ref hs, .ref hc, .ref hp, .ref hg, .int 0, .int 0, .int 0, .int td, .int sd])), (ho, .inl (cJ, 1, .inr (.inl fo)))] [(cJ, .long)] sz) (va_Qi (fun (r : Int32) (_ : Unit) => r = 1) (fun _ t => z_W D [(h0, .inr (6, [.ref hu, .ref hs, .ref hc, .ref hp, .ref hg, .int 0, .int 0, .int 0, .int td, .int sd])), (ho, .inl (cJ, 1, .inr (.inl fo)))] [(cJ, .long)] (va_A [(h0, .inr (6, [.ref hu, .ref hs, .ref hc, .ref hp, .ref hg, .int 0, .int 0, .int 0, .int td, .int sd])), (ho, .inl (cJ, 1, .inr (.inl fo)))] sz) t) (va_A [(h0, .inr (6, [.ref hu, .ref hs, .ref hc, .ref hp, .ref hg, .int 0, .int 0, .int 0, .int td, .int sd])), (ho, .inl (cJ, 1, .inr (.inl fo)))] sz)) (z_T (False) "none" D [(h0, .inr (6, [.ref hu, .ref hs, .ref hc, .ref hp, .ref hg, .int 0, .int 0, .int 0, .int td, .int sd])), (ho, .inl (cJ, 1, .inr (.inl fo)))] [(cJ, .long)] sz) 1 6 (va_A [(h0, .inr (6, [.ref hu, .ref hs, .ref hc, .ref hp, .ref hg, .int 0, .int 0, .int 0, .int td, .int sd])), (ho, .inl (cJ, 1, .inr (.inl fo)))] sz) := by
  refine vx_ofWH (cc := cL_unitOf) (maxL := 4) (ret := (some .int)) (hh := [(0, 9, 12, 23), (0, 9, 15, 39)]) (by decide +kernel) rfl ?_
  intro p e s m args below meth c s₁ B hml hv
  obtain ⟨rfl, hsz, hP, hK, hD0, hE, hX0⟩ := hv
  have hx := B.exec
  have hb := B.bytes
  have hr := B.returns
  have hts := z_E.ts (args := [.ref h0, .int a0, .ref ho].toArray) hE
  have hown : s.vm.findClass RL = some m.cls := findClass_of_methodNamed B.named
  have hlocks := B.notSynchronized
  have htb := vx_table (x := yL_unitOf) B (atoms_spec (ws := [Cond.codeWith yL_unitOf cL_unitOf 4 (some .int) [(0, 9, 12, 23), (0, 9, 15, 39)]]) B.pre _ List.mem_cons_self)
  subst hsz
  have hD := hD0.self (sz := s.heap.size)
  generalize hAe : va_A [(h0, .inr (6, [.ref hu, .ref hs, .ref hc, .ref hp, .ref hg, .int 0, .int 0, .int 0, .int td, .int sd])), (ho, .inl (cJ, 1, .inr (.inl fo)))] s.heap.size = A at hD hX0 ⊢
  have hX : z_X D A s s.heap := hX0
  have hA : ∀ q : Nat, s.heap.size ≤ q → A q := fun q h => by rw [← hAe]; exact Or.inr h
  have hS : va_S A s.heap s.heap [] := va_S.rf
  have hP : va_P D vwCl [(h0, .inr (6, [.ref hu, .ref hs, .ref hc, .ref hp, .ref hg, .int 0, .int 0, .int 0, .int td, .int sd])), (ho, .inl (cJ, 1, .inr (.inl fo)))] s.heap := hP
  have hl := lv_entry ([.ref h0, .int a0, .ref ho]) (n := 4) (Nat.le_of_ble_eq_true rfl)
  rw [lg_entry_eq]
  generalize (lg_sl ([.ref h0, .int a0, .ref ho]) ++ List.replicate (4 - (lg_sl ([.ref h0, .int a0, .ref ho])).length) Slot.unset).toArray = ls at hl ⊢
  have hl : lv_has ls 4 [(0, .ref h0), (1, .int a0), (2, .ref ho)] := hl
  skip
  refine lv_aload_n hx hb dL_unitOf_0 rfl (lv_at hl 2 rfl) ?_
  refine lv_iconst (v := 0) hx hb dL_unitOf_1 (by decide) ?_
  refine lv_aload_n hx hb dL_unitOf_2 rfl (lv_at hl 0 rfl) ?_
  refine lv_iload_n hx hb dL_unitOf_3 rfl (lv_at hl 1 rfl) ?_
  obtain ⟨hb_1, hc_1⟩ := z_call (wc := [(h0, .inr (6, [.ref hu, .ref hs, .ref hc, .ref hp, .ref hg, .int 0, .int 0, .int 0, .int td, .int sd]))]) (tc := []) ([.ref h0, .int a0]) hP hK hD hS hA hE hX [0] rfl rfl [] rfl
  have hF_1 := va_free (wc := [(h0, .inr (6, [.ref hu, .ref hs, .ref hc, .ref hp, .ref hg, .int 0, .int 0, .int 0, .int td, .int sd]))]) hD hS hA [0] rfl
  refine vx_calli (vx_runV (As := [.int a0]) (rest := [.int 0, .ref ho]) ⟨hx, hb, hml, hown, hts⟩ (f_X4_unitOf l hst D h0 hu hs hc hp hg td sd a0 _ ) (z_cV 1 hE zw_686 zw_687 zw_688 zw_91 zw_689 rfl rfl rfl (by decide +kernel) ⟨(Nat.le_of_ble_eq_true rfl), (Nat.le_of_ble_eq_true rfl)⟩) ⟨hb_1, va_recv hK hP (ci := 6) (q0 := 0) rfl rfl, hc_1⟩ rfl rfl hl.1 rfl (lv_room (Nat.le_of_ble_eq_true rfl)) dL_unitOf_4 ⟨(Nat.le_of_ble_eq_true rfl), (Nat.le_of_ble_eq_true rfl)⟩) hS (fun q _ h => hF_1 q h) hF_1 (fun q _ h => hF_1 q h) (fun E_1 ce_1 q9_1 u_1 t_1 H1 locs ht_1 hvm_1 hw_1 hB_1 hz_1 hk_1 hS1 hce_1 hcv_1 hcl_1 => ?_) (fun r_1 u_1 t_1 H1 locs ht_1 hvm_1 hw_1 hB_1 hz_1 hk_1 hS1 => ?_)
  · obtain ⟨rfl, hB_1⟩ := hB_1
    obtain ⟨hP, hK, hD⟩ := z_back (wc := [(h0, .inr (6, [.ref hu, .ref hs, .ref hc, .ref hp, .ref hg, .int 0, .int 0, .int 0, .int td, .int sd]))]) (wr := [(ho, .inl (cJ, 1, .inr (.inl fo)))]) (w1 := [(h0, .inr (6, [.ref hu, .ref hs, .ref hc, .ref hp, .ref hg, .int 0, .int 0, .int 0, .int td, .int sd]))]) (tr := [(cJ, .long)]) hP hK hD [0] [1] rfl rfl rfl (by decide) ht_1 hvm_1 hk_1 hF_1 [0] rfl hB_1
    have hS := hS1
    have hP : va_P D vwCl [(ho, .inl (cJ, 1, .inr (.inl fo))), (h0, .inr (6, [.ref hu, .ref hs, .ref hc, .ref hp, .ref hg, .int 0, .int 0, .int 0, .int td, .int sd]))] H1 := hP
    have hD : va_D A [(ho, .inl (cJ, 1, .inr (.inl fo))), (h0, .inr (6, [.ref hu, .ref hs, .ref hc, .ref hp, .ref hg, .int 0, .int 0, .int 0, .int td, .int sd]))] := hD
    have hK : va_K D vwCl [(cJ, .long)] s := hK
    clear hS1
    refine vx_catch (name := "java/lang/IndexOutOfBoundsException") hown [] ⟨0, 9, 12, 23⟩ [⟨0, 9, 15, 39⟩] (htb.trans rfl) (fun z hz => nomatch hz) (by decide) (by decide) (hts _ zw_520) (hts _ zw_531) hce_1 hcv_1 hcl_1 ?_
    refine lv_astore_n (lv' := [(3, .ref q9_1), (0, .ref h0), (1, .int a0), (2, .ref ho)]) hx hb dL_unitOf_12 rfl hl (by decide) rfl (fun ls hl => ?_)
    refine lv_iconst (v := 1) hx hb dL_unitOf_13 (by decide) ?_
    exact vx_ret (W.iret (v := 1) hx hb hr (fun t ht hW => ⟨⟨1, (), rfl, rfl, z_end hP hK hD [1, 0] rfl rfl [0] rfl ht hW.alike⟩, hS.F ht⟩) hS.2.2 dL_unitOf_14)
  · exact hw_1.elim
theorem dL_homeOf_0 : decode cL_homeOf 0 = .ok (.aload_n 2, 1) := by decide +kernel
theorem dL_homeOf_1 : decode cL_homeOf 1 = .ok (.iconst 0, 1) := by decide +kernel
theorem dL_homeOf_2 : decode cL_homeOf 2 = .ok (.aload_n 0, 1) := by decide +kernel
theorem dL_homeOf_3 : decode cL_homeOf 3 = .ok (.iload_n 1, 1) := by decide +kernel
theorem dL_homeOf_4 : decode cL_homeOf 4 = .ok (.invokevirtual 63, 3) := by decide +kernel
theorem zw_694 : Cond.methodLink RL 63 yX4_homeOf ∈ z_Ts := z_m 694 (by decide +kernel) (by decide +kernel)
theorem zw_695 : Cond.instanceMethod yX4_homeOf ∈ z_Ts := z_m 695 (by decide +kernel) (by decide +kernel)
theorem zw_696 : Cond.selects RX4 yX4_homeOf yX4_homeOf ∈ z_Ts := z_m 696 (by decide +kernel) (by decide +kernel)
theorem zw_697 : Cond.code yX4_homeOf cX4_homeOf 2 (some .int) ∈ z_Ts := z_m 697 (by decide +kernel) (by decide +kernel)
theorem dL_homeOf_12 : decode cL_homeOf 12 = .ok (.astore_n 3, 1) := by decide +kernel
theorem dL_homeOf_13 : decode cL_homeOf 13 = .ok (.iconst 1, 1) := by decide +kernel
theorem dL_homeOf_14 : decode cL_homeOf 14 = .ok (.ireturn, 1) := by decide +kernel
set_option maxHeartbeats 4000000 in
set_option maxRecDepth 100000 in
theorem f_L_homeOf (l : Launch) (hst : l.stackTraces = false) (D : va_G) (h0 : Nat) (hu : Nat) (hs : Nat) (hc : Nat) (hp : Nat) (hg : Nat) (td : Int32) (sd : Int32) (a0 : Int32) (ho : Nat) (fo : Nat → Int64) (cJ : ClassId) (sz : Nat)  : vx_Met l yL_homeOf [Cond.codeWith yL_homeOf cL_homeOf 4 (some .int) [(0, 9, 12, 23)]] ({ frames := 8, cells := 1, slots := 6, locals := 170 }) (z_Pc D [.ref h0, .int a0, .ref ho] [(h0, .inr (6, [.ref hu, .ref hs, .ref hc, .ref hp, .ref hg, .int 0, .int 0, .int 0, .int td, .int sd])), (ho, .inl (cJ, 1, .inr (.inl fo)))] [(cJ, .long)] sz) (va_Qi (fun (r : Int32) (_ : Unit) => r = 1) (fun _ t => z_W D [(h0, .inr (6, [.ref hu, .ref hs, .ref hc, .ref hp, .ref hg, .int 0, .int 0, .int 0, .int td, .int sd])), (ho, .inl (cJ, 1, .inr (.inl fo)))] [(cJ, .long)] (va_A [(h0, .inr (6, [.ref hu, .ref hs, .ref hc, .ref hp, .ref hg, .int 0, .int 0, .int 0, .int td, .int sd])), (ho, .inl (cJ, 1, .inr (.inl fo)))] sz) t) (va_A [(h0, .inr (6, [.ref hu, .ref hs, .ref hc, .ref hp, .ref hg, .int 0, .int 0, .int 0, .int td, .int sd])), (ho, .inl (cJ, 1, .inr (.inl fo)))] sz)) (z_T (False) "none" D [(h0, .inr (6, [.ref hu, .ref hs, .ref hc, .ref hp, .ref hg, .int 0, .int 0, .int 0, .int td, .int sd])), (ho, .inl (cJ, 1, .inr (.inl fo)))] [(cJ, .long)] sz) 1 6 (va_A [(h0, .inr (6, [.ref hu, .ref hs, .ref hc, .ref hp, .ref hg, .int 0, .int 0, .int 0, .int td, .int sd])), (ho, .inl (cJ, 1, .inr (.inl fo)))] sz) := by
  refine vx_ofWH (cc := cL_homeOf) (maxL := 4) (ret := (some .int)) (hh := [(0, 9, 12, 23)]) (by decide +kernel) rfl ?_
  intro p e s m args below meth c s₁ B hml hv
  obtain ⟨rfl, hsz, hP, hK, hD0, hE, hX0⟩ := hv
  have hx := B.exec
  have hb := B.bytes
  have hr := B.returns
  have hts := z_E.ts (args := [.ref h0, .int a0, .ref ho].toArray) hE
  have hown : s.vm.findClass RL = some m.cls := findClass_of_methodNamed B.named
  have hlocks := B.notSynchronized
  have htb := vx_table (x := yL_homeOf) B (atoms_spec (ws := [Cond.codeWith yL_homeOf cL_homeOf 4 (some .int) [(0, 9, 12, 23)]]) B.pre _ List.mem_cons_self)
  subst hsz
  have hD := hD0.self (sz := s.heap.size)
  generalize hAe : va_A [(h0, .inr (6, [.ref hu, .ref hs, .ref hc, .ref hp, .ref hg, .int 0, .int 0, .int 0, .int td, .int sd])), (ho, .inl (cJ, 1, .inr (.inl fo)))] s.heap.size = A at hD hX0 ⊢
  have hX : z_X D A s s.heap := hX0
  have hA : ∀ q : Nat, s.heap.size ≤ q → A q := fun q h => by rw [← hAe]; exact Or.inr h
  have hS : va_S A s.heap s.heap [] := va_S.rf
  have hP : va_P D vwCl [(h0, .inr (6, [.ref hu, .ref hs, .ref hc, .ref hp, .ref hg, .int 0, .int 0, .int 0, .int td, .int sd])), (ho, .inl (cJ, 1, .inr (.inl fo)))] s.heap := hP
  have hl := lv_entry ([.ref h0, .int a0, .ref ho]) (n := 4) (Nat.le_of_ble_eq_true rfl)
  rw [lg_entry_eq]
  generalize (lg_sl ([.ref h0, .int a0, .ref ho]) ++ List.replicate (4 - (lg_sl ([.ref h0, .int a0, .ref ho])).length) Slot.unset).toArray = ls at hl ⊢
  have hl : lv_has ls 4 [(0, .ref h0), (1, .int a0), (2, .ref ho)] := hl
  skip
  refine lv_aload_n hx hb dL_homeOf_0 rfl (lv_at hl 2 rfl) ?_
  refine lv_iconst (v := 0) hx hb dL_homeOf_1 (by decide) ?_
  refine lv_aload_n hx hb dL_homeOf_2 rfl (lv_at hl 0 rfl) ?_
  refine lv_iload_n hx hb dL_homeOf_3 rfl (lv_at hl 1 rfl) ?_
  obtain ⟨hb_1, hc_1⟩ := z_call (wc := [(h0, .inr (6, [.ref hu, .ref hs, .ref hc, .ref hp, .ref hg, .int 0, .int 0, .int 0, .int td, .int sd]))]) (tc := []) ([.ref h0, .int a0]) hP hK hD hS hA hE hX [0] rfl rfl [] rfl
  have hF_1 := va_free (wc := [(h0, .inr (6, [.ref hu, .ref hs, .ref hc, .ref hp, .ref hg, .int 0, .int 0, .int 0, .int td, .int sd]))]) hD hS hA [0] rfl
  refine vx_calli (vx_runV (As := [.int a0]) (rest := [.int 0, .ref ho]) ⟨hx, hb, hml, hown, hts⟩ (f_X4_homeOf l hst D h0 hu hs hc hp hg td sd a0 _ ) (z_cV 1 hE zw_694 zw_695 zw_696 zw_91 zw_697 rfl rfl rfl (by decide +kernel) ⟨(Nat.le_of_ble_eq_true rfl), (Nat.le_of_ble_eq_true rfl)⟩) ⟨hb_1, va_recv hK hP (ci := 6) (q0 := 0) rfl rfl, hc_1⟩ rfl rfl hl.1 rfl (lv_room (Nat.le_of_ble_eq_true rfl)) dL_homeOf_4 ⟨(Nat.le_of_ble_eq_true rfl), (Nat.le_of_ble_eq_true rfl)⟩) hS (fun q _ h => hF_1 q h) hF_1 (fun q _ h => hF_1 q h) (fun E_1 ce_1 q9_1 u_1 t_1 H1 locs ht_1 hvm_1 hw_1 hB_1 hz_1 hk_1 hS1 hce_1 hcv_1 hcl_1 => ?_) (fun r_1 u_1 t_1 H1 locs ht_1 hvm_1 hw_1 hB_1 hz_1 hk_1 hS1 => ?_)
  · obtain ⟨rfl, hB_1⟩ := hB_1
    obtain ⟨hP, hK, hD⟩ := z_back (wc := [(h0, .inr (6, [.ref hu, .ref hs, .ref hc, .ref hp, .ref hg, .int 0, .int 0, .int 0, .int td, .int sd]))]) (wr := [(ho, .inl (cJ, 1, .inr (.inl fo)))]) (w1 := [(h0, .inr (6, [.ref hu, .ref hs, .ref hc, .ref hp, .ref hg, .int 0, .int 0, .int 0, .int td, .int sd]))]) (tr := [(cJ, .long)]) hP hK hD [0] [1] rfl rfl rfl (by decide) ht_1 hvm_1 hk_1 hF_1 [0] rfl hB_1
    have hS := hS1
    have hP : va_P D vwCl [(ho, .inl (cJ, 1, .inr (.inl fo))), (h0, .inr (6, [.ref hu, .ref hs, .ref hc, .ref hp, .ref hg, .int 0, .int 0, .int 0, .int td, .int sd]))] H1 := hP
    have hD : va_D A [(ho, .inl (cJ, 1, .inr (.inl fo))), (h0, .inr (6, [.ref hu, .ref hs, .ref hc, .ref hp, .ref hg, .int 0, .int 0, .int 0, .int td, .int sd]))] := hD
    have hK : va_K D vwCl [(cJ, .long)] s := hK
    clear hS1
    refine vx_catch (name := "java/lang/IndexOutOfBoundsException") hown [] ⟨0, 9, 12, 23⟩ [] (htb.trans rfl) (fun z hz => nomatch hz) (by decide) (by decide) (hts _ zw_520) (hts _ zw_531) hce_1 hcv_1 hcl_1 ?_
    refine lv_astore_n (lv' := [(3, .ref q9_1), (0, .ref h0), (1, .int a0), (2, .ref ho)]) hx hb dL_homeOf_12 rfl hl (by decide) rfl (fun ls hl => ?_)
    refine lv_iconst (v := 1) hx hb dL_homeOf_13 (by decide) ?_
    exact vx_ret (W.iret (v := 1) hx hb hr (fun t ht hW => ⟨⟨1, (), rfl, rfl, z_end hP hK hD [1, 0] rfl rfl [0] rfl ht hW.alike⟩, hS.F ht⟩) hS.2.2 dL_homeOf_14)
  · exact hw_1.elim
theorem dL_move_0 : decode cL_move 0 = .ok (.aload_n 3, 1) := by decide +kernel
theorem dL_move_1 : decode cL_move 1 = .ok (.iconst 0, 1) := by decide +kernel
theorem dL_move_2 : decode cL_move 2 = .ok (.aload_n 0, 1) := by decide +kernel
theorem dL_move_3 : decode cL_move 3 = .ok (.iload_n 1, 1) := by decide +kernel
theorem dL_move_4 : decode cL_move 4 = .ok (.iload_n 2, 1) := by decide +kernel
theorem dL_move_5 : decode cL_move 5 = .ok (.invokevirtual 66, 3) := by decide +kernel
theorem zw_701 : Cond.methodLink RL 66 yX4_move ∈ z_Ts := z_m 701 (by decide +kernel) (by decide +kernel)
theorem zw_702 : Cond.instanceMethod yX4_move ∈ z_Ts := z_m 702 (by decide +kernel) (by decide +kernel)
theorem zw_703 : Cond.selects RX4 yX4_move yX4_move ∈ z_Ts := z_m 703 (by decide +kernel) (by decide +kernel)
theorem zw_704 : Cond.code yX4_move cX4_move 3 (some .int) ∈ z_Ts := z_m 704 (by decide +kernel) (by decide +kernel)
theorem dL_move_13 : decode cL_move 13 = .ok (.astore 4, 2) := by decide +kernel
theorem dL_move_15 : decode cL_move 15 = .ok (.iconst 1, 1) := by decide +kernel
theorem dL_move_16 : decode cL_move 16 = .ok (.ireturn, 1) := by decide +kernel
set_option maxHeartbeats 4000000 in
set_option maxRecDepth 100000 in
theorem f_L_move (l : Launch) (hst : l.stackTraces = false) (D : va_G) (h0 : Nat) (hu : Nat) (hs : Nat) (hc : Nat) (hp : Nat) (hg : Nat) (td : Int32) (sd : Int32) (a0 : Int32) (a1 : Int32) (ho : Nat) (fo : Nat → Int64) (cJ : ClassId) (sz : Nat)  : vx_Met l yL_move [Cond.codeWith yL_move cL_move 5 (some .int) [(0, 10, 13, 23), (0, 10, 17, 15)]] ({ frames := 8, cells := 1, slots := 6, locals := 170 }) (z_Pc D [.ref h0, .int a0, .int a1, .ref ho] [(h0, .inr (6, [.ref hu, .ref hs, .ref hc, .ref hp, .ref hg, .int 0, .int 0, .int 0, .int td, .int sd])), (ho, .inl (cJ, 1, .inr (.inl fo)))] [(cJ, .long)] sz) (va_Qi (fun (r : Int32) (_ : Unit) => r = 1) (fun _ t => z_W D [(h0, .inr (6, [.ref hu, .ref hs, .ref hc, .ref hp, .ref hg, .int 0, .int 0, .int 0, .int td, .int sd])), (ho, .inl (cJ, 1, .inr (.inl fo)))] [(cJ, .long)] (va_A [(h0, .inr (6, [.ref hu, .ref hs, .ref hc, .ref hp, .ref hg, .int 0, .int 0, .int 0, .int td, .int sd])), (ho, .inl (cJ, 1, .inr (.inl fo)))] sz) t) (va_A [(h0, .inr (6, [.ref hu, .ref hs, .ref hc, .ref hp, .ref hg, .int 0, .int 0, .int 0, .int td, .int sd])), (ho, .inl (cJ, 1, .inr (.inl fo)))] sz)) (z_T (False) "none" D [(h0, .inr (6, [.ref hu, .ref hs, .ref hc, .ref hp, .ref hg, .int 0, .int 0, .int 0, .int td, .int sd])), (ho, .inl (cJ, 1, .inr (.inl fo)))] [(cJ, .long)] sz) 1 6 (va_A [(h0, .inr (6, [.ref hu, .ref hs, .ref hc, .ref hp, .ref hg, .int 0, .int 0, .int 0, .int td, .int sd])), (ho, .inl (cJ, 1, .inr (.inl fo)))] sz) := by
  refine vx_ofWH (cc := cL_move) (maxL := 5) (ret := (some .int)) (hh := [(0, 10, 13, 23), (0, 10, 17, 15)]) (by decide +kernel) rfl ?_
  intro p e s m args below meth c s₁ B hml hv
  obtain ⟨rfl, hsz, hP, hK, hD0, hE, hX0⟩ := hv
  have hx := B.exec
  have hb := B.bytes
  have hr := B.returns
  have hts := z_E.ts (args := [.ref h0, .int a0, .int a1, .ref ho].toArray) hE
  have hown : s.vm.findClass RL = some m.cls := findClass_of_methodNamed B.named
  have hlocks := B.notSynchronized
  have htb := vx_table (x := yL_move) B (atoms_spec (ws := [Cond.codeWith yL_move cL_move 5 (some .int) [(0, 10, 13, 23), (0, 10, 17, 15)]]) B.pre _ List.mem_cons_self)
  subst hsz
  have hD := hD0.self (sz := s.heap.size)
  generalize hAe : va_A [(h0, .inr (6, [.ref hu, .ref hs, .ref hc, .ref hp, .ref hg, .int 0, .int 0, .int 0, .int td, .int sd])), (ho, .inl (cJ, 1, .inr (.inl fo)))] s.heap.size = A at hD hX0 ⊢
  have hX : z_X D A s s.heap := hX0
  have hA : ∀ q : Nat, s.heap.size ≤ q → A q := fun q h => by rw [← hAe]; exact Or.inr h
  have hS : va_S A s.heap s.heap [] := va_S.rf
  have hP : va_P D vwCl [(h0, .inr (6, [.ref hu, .ref hs, .ref hc, .ref hp, .ref hg, .int 0, .int 0, .int 0, .int td, .int sd])), (ho, .inl (cJ, 1, .inr (.inl fo)))] s.heap := hP
  have hl := lv_entry ([.ref h0, .int a0, .int a1, .ref ho]) (n := 5) (Nat.le_of_ble_eq_true rfl)
  rw [lg_entry_eq]
  generalize (lg_sl ([.ref h0, .int a0, .int a1, .ref ho]) ++ List.replicate (5 - (lg_sl ([.ref h0, .int a0, .int a1, .ref ho])).length) Slot.unset).toArray = ls at hl ⊢
  have hl : lv_has ls 5 [(0, .ref h0), (1, .int a0), (2, .int a1), (3, .ref ho)] := hl
  skip
  refine lv_aload_n hx hb dL_move_0 rfl (lv_at hl 3 rfl) ?_
  refine lv_iconst (v := 0) hx hb dL_move_1 (by decide) ?_
  refine lv_aload_n hx hb dL_move_2 rfl (lv_at hl 0 rfl) ?_
  refine lv_iload_n hx hb dL_move_3 rfl (lv_at hl 1 rfl) ?_
  refine lv_iload_n hx hb dL_move_4 rfl (lv_at hl 2 rfl) ?_
  obtain ⟨hb_1, hc_1⟩ := z_call (wc := [(h0, .inr (6, [.ref hu, .ref hs, .ref hc, .ref hp, .ref hg, .int 0, .int 0, .int 0, .int td, .int sd]))]) (tc := []) ([.ref h0, .int a0, .int a1]) hP hK hD hS hA hE hX [0] rfl rfl [] rfl
  have hF_1 := va_free (wc := [(h0, .inr (6, [.ref hu, .ref hs, .ref hc, .ref hp, .ref hg, .int 0, .int 0, .int 0, .int td, .int sd]))]) hD hS hA [0] rfl
  refine vx_calli (vx_runV (As := [.int a0, .int a1]) (rest := [.int 0, .ref ho]) ⟨hx, hb, hml, hown, hts⟩ (f_X4_move l hst D h0 hu hs hc hp hg td sd a0 a1 _ ) (z_cV 2 hE zw_701 zw_702 zw_703 zw_91 zw_704 rfl rfl rfl (by decide +kernel) ⟨(Nat.le_of_ble_eq_true rfl), (Nat.le_of_ble_eq_true rfl)⟩) ⟨hb_1, va_recv hK hP (ci := 6) (q0 := 0) rfl rfl, hc_1⟩ rfl rfl hl.1 rfl (lv_room (Nat.le_of_ble_eq_true rfl)) dL_move_5 ⟨(Nat.le_of_ble_eq_true rfl), (Nat.le_of_ble_eq_true rfl)⟩) hS (fun q _ h => hF_1 q h) hF_1 (fun q _ h => hF_1 q h) (fun E_1 ce_1 q9_1 u_1 t_1 H1 locs ht_1 hvm_1 hw_1 hB_1 hz_1 hk_1 hS1 hce_1 hcv_1 hcl_1 => ?_) (fun r_1 u_1 t_1 H1 locs ht_1 hvm_1 hw_1 hB_1 hz_1 hk_1 hS1 => ?_)
  · obtain ⟨rfl, hB_1⟩ := hB_1
    obtain ⟨hP, hK, hD⟩ := z_back (wc := [(h0, .inr (6, [.ref hu, .ref hs, .ref hc, .ref hp, .ref hg, .int 0, .int 0, .int 0, .int td, .int sd]))]) (wr := [(ho, .inl (cJ, 1, .inr (.inl fo)))]) (w1 := [(h0, .inr (6, [.ref hu, .ref hs, .ref hc, .ref hp, .ref hg, .int 0, .int 0, .int 0, .int td, .int sd]))]) (tr := [(cJ, .long)]) hP hK hD [0] [1] rfl rfl rfl (by decide) ht_1 hvm_1 hk_1 hF_1 [0] rfl hB_1
    have hS := hS1
    have hP : va_P D vwCl [(ho, .inl (cJ, 1, .inr (.inl fo))), (h0, .inr (6, [.ref hu, .ref hs, .ref hc, .ref hp, .ref hg, .int 0, .int 0, .int 0, .int td, .int sd]))] H1 := hP
    have hD : va_D A [(ho, .inl (cJ, 1, .inr (.inl fo))), (h0, .inr (6, [.ref hu, .ref hs, .ref hc, .ref hp, .ref hg, .int 0, .int 0, .int 0, .int td, .int sd]))] := hD
    have hK : va_K D vwCl [(cJ, .long)] s := hK
    clear hS1
    refine vx_catch (name := "java/lang/IndexOutOfBoundsException") hown [] ⟨0, 10, 13, 23⟩ [⟨0, 10, 17, 15⟩] (htb.trans rfl) (fun z hz => nomatch hz) (by decide) (by decide) (hts _ zw_520) (hts _ zw_531) hce_1 hcv_1 hcl_1 ?_
    refine lv_astore (lv' := [(4, .ref q9_1), (0, .ref h0), (1, .int a0), (2, .int a1), (3, .ref ho)]) hx hb dL_move_13 hl (by decide) rfl (fun ls hl => ?_)
    refine lv_iconst (v := 1) hx hb dL_move_15 (by decide) ?_
    exact vx_ret (W.iret (v := 1) hx hb hr (fun t ht hW => ⟨⟨1, (), rfl, rfl, z_end hP hK hD [1, 0] rfl rfl [0] rfl ht hW.alike⟩, hS.F ht⟩) hS.2.2 dL_move_16)
  · exact hw_1.elim
theorem dL_toStall_0 : decode cL_toStall 0 = .ok (.aload_n 2, 1) := by decide +kernel
theorem dL_toStall_1 : decode cL_toStall 1 = .ok (.iconst 0, 1) := by decide +kernel
theorem dL_toStall_2 : decode cL_toStall 2 = .ok (.aload_n 0, 1) := by decide +kernel
theorem dL_toStall_3 : decode cL_toStall 3 = .ok (.iload_n 1, 1) := by decide +kernel
theorem dL_toStall_4 : decode cL_toStall 4 = .ok (.invokevirtual 69, 3) := by decide +kernel
theorem zw_724 : Cond.methodLink RL 69 yX4_toStall ∈ z_Ts := z_m 724 (by decide +kernel) (by decide +kernel)
theorem zw_725 : Cond.instanceMethod yX4_toStall ∈ z_Ts := z_m 725 (by decide +kernel) (by decide +kernel)
theorem zw_726 : Cond.selects RX4 yX4_toStall yX4_toStall ∈ z_Ts := z_m 726 (by decide +kernel) (by decide +kernel)
theorem zw_727 : Cond.code yX4_toStall cX4_toStall 2 (some .int) ∈ z_Ts := z_m 727 (by decide +kernel) (by decide +kernel)
theorem dL_toStall_12 : decode cL_toStall 12 = .ok (.astore_n 3, 1) := by decide +kernel
theorem dL_toStall_13 : decode cL_toStall 13 = .ok (.iconst 1, 1) := by decide +kernel
theorem dL_toStall_14 : decode cL_toStall 14 = .ok (.ireturn, 1) := by decide +kernel
set_option maxHeartbeats 4000000 in
set_option maxRecDepth 100000 in
theorem f_L_toStall (l : Launch) (hst : l.stackTraces = false) (D : va_G) (h0 : Nat) (hu : Nat) (hs : Nat) (hc : Nat) (hp : Nat) (hg : Nat) (td : Int32) (sd : Int32) (a0 : Int32) (ho : Nat) (fo : Nat → Int64) (cJ : ClassId) (sz : Nat)  : vx_Met l yL_toStall [Cond.codeWith yL_toStall cL_toStall 4 (some .int) [(0, 9, 12, 23), (0, 9, 15, 15)]] ({ frames := 8, cells := 1, slots := 6, locals := 170 }) (z_Pc D [.ref h0, .int a0, .ref ho] [(h0, .inr (6, [.ref hu, .ref hs, .ref hc, .ref hp, .ref hg, .int 0, .int 0, .int 0, .int td, .int sd])), (ho, .inl (cJ, 1, .inr (.inl fo)))] [(cJ, .long)] sz) (va_Qi (fun (r : Int32) (_ : Unit) => r = 1) (fun _ t => z_W D [(h0, .inr (6, [.ref hu, .ref hs, .ref hc, .ref hp, .ref hg, .int 0, .int 0, .int 0, .int td, .int sd])), (ho, .inl (cJ, 1, .inr (.inl fo)))] [(cJ, .long)] (va_A [(h0, .inr (6, [.ref hu, .ref hs, .ref hc, .ref hp, .ref hg, .int 0, .int 0, .int 0, .int td, .int sd])), (ho, .inl (cJ, 1, .inr (.inl fo)))] sz) t) (va_A [(h0, .inr (6, [.ref hu, .ref hs, .ref hc, .ref hp, .ref hg, .int 0, .int 0, .int 0, .int td, .int sd])), (ho, .inl (cJ, 1, .inr (.inl fo)))] sz)) (z_T (False) "none" D [(h0, .inr (6, [.ref hu, .ref hs, .ref hc, .ref hp, .ref hg, .int 0, .int 0, .int 0, .int td, .int sd])), (ho, .inl (cJ, 1, .inr (.inl fo)))] [(cJ, .long)] sz) 1 6 (va_A [(h0, .inr (6, [.ref hu, .ref hs, .ref hc, .ref hp, .ref hg, .int 0, .int 0, .int 0, .int td, .int sd])), (ho, .inl (cJ, 1, .inr (.inl fo)))] sz) := by
  refine vx_ofWH (cc := cL_toStall) (maxL := 4) (ret := (some .int)) (hh := [(0, 9, 12, 23), (0, 9, 15, 15)]) (by decide +kernel) rfl ?_
  intro p e s m args below meth c s₁ B hml hv
  obtain ⟨rfl, hsz, hP, hK, hD0, hE, hX0⟩ := hv
  have hx := B.exec
  have hb := B.bytes
  have hr := B.returns
  have hts := z_E.ts (args := [.ref h0, .int a0, .ref ho].toArray) hE
  have hown : s.vm.findClass RL = some m.cls := findClass_of_methodNamed B.named
  have hlocks := B.notSynchronized
  have htb := vx_table (x := yL_toStall) B (atoms_spec (ws := [Cond.codeWith yL_toStall cL_toStall 4 (some .int) [(0, 9, 12, 23), (0, 9, 15, 15)]]) B.pre _ List.mem_cons_self)
  subst hsz
  have hD := hD0.self (sz := s.heap.size)
  generalize hAe : va_A [(h0, .inr (6, [.ref hu, .ref hs, .ref hc, .ref hp, .ref hg, .int 0, .int 0, .int 0, .int td, .int sd])), (ho, .inl (cJ, 1, .inr (.inl fo)))] s.heap.size = A at hD hX0 ⊢
  have hX : z_X D A s s.heap := hX0
  have hA : ∀ q : Nat, s.heap.size ≤ q → A q := fun q h => by rw [← hAe]; exact Or.inr h
  have hS : va_S A s.heap s.heap [] := va_S.rf
  have hP : va_P D vwCl [(h0, .inr (6, [.ref hu, .ref hs, .ref hc, .ref hp, .ref hg, .int 0, .int 0, .int 0, .int td, .int sd])), (ho, .inl (cJ, 1, .inr (.inl fo)))] s.heap := hP
  have hl := lv_entry ([.ref h0, .int a0, .ref ho]) (n := 4) (Nat.le_of_ble_eq_true rfl)
  rw [lg_entry_eq]
  generalize (lg_sl ([.ref h0, .int a0, .ref ho]) ++ List.replicate (4 - (lg_sl ([.ref h0, .int a0, .ref ho])).length) Slot.unset).toArray = ls at hl ⊢
  have hl : lv_has ls 4 [(0, .ref h0), (1, .int a0), (2, .ref ho)] := hl
  skip
  refine lv_aload_n hx hb dL_toStall_0 rfl (lv_at hl 2 rfl) ?_
  refine lv_iconst (v := 0) hx hb dL_toStall_1 (by decide) ?_
  refine lv_aload_n hx hb dL_toStall_2 rfl (lv_at hl 0 rfl) ?_
  refine lv_iload_n hx hb dL_toStall_3 rfl (lv_at hl 1 rfl) ?_
  obtain ⟨hb_1, hc_1⟩ := z_call (wc := [(h0, .inr (6, [.ref hu, .ref hs, .ref hc, .ref hp, .ref hg, .int 0, .int 0, .int 0, .int td, .int sd]))]) (tc := []) ([.ref h0, .int a0]) hP hK hD hS hA hE hX [0] rfl rfl [] rfl
  have hF_1 := va_free (wc := [(h0, .inr (6, [.ref hu, .ref hs, .ref hc, .ref hp, .ref hg, .int 0, .int 0, .int 0, .int td, .int sd]))]) hD hS hA [0] rfl
  refine vx_calli (vx_runV (As := [.int a0]) (rest := [.int 0, .ref ho]) ⟨hx, hb, hml, hown, hts⟩ (f_X4_toStall l hst D h0 hu hs hc hp hg td sd a0 _ ) (z_cV 1 hE zw_724 zw_725 zw_726 zw_91 zw_727 rfl rfl rfl (by decide +kernel) ⟨(Nat.le_of_ble_eq_true rfl), (Nat.le_of_ble_eq_true rfl)⟩) ⟨hb_1, va_recv hK hP (ci := 6) (q0 := 0) rfl rfl, hc_1⟩ rfl rfl hl.1 rfl (lv_room (Nat.le_of_ble_eq_true rfl)) dL_toStall_4 ⟨(Nat.le_of_ble_eq_true rfl), (Nat.le_of_ble_eq_true rfl)⟩) hS (fun q _ h => hF_1 q h) hF_1 (fun q _ h => hF_1 q h) (fun E_1 ce_1 q9_1 u_1 t_1 H1 locs ht_1 hvm_1 hw_1 hB_1 hz_1 hk_1 hS1 hce_1 hcv_1 hcl_1 => ?_) (fun r_1 u_1 t_1 H1 locs ht_1 hvm_1 hw_1 hB_1 hz_1 hk_1 hS1 => ?_)
  · obtain ⟨rfl, hB_1⟩ := hB_1
    obtain ⟨hP, hK, hD⟩ := z_back (wc := [(h0, .inr (6, [.ref hu, .ref hs, .ref hc, .ref hp, .ref hg, .int 0, .int 0, .int 0, .int td, .int sd]))]) (wr := [(ho, .inl (cJ, 1, .inr (.inl fo)))]) (w1 := [(h0, .inr (6, [.ref hu, .ref hs, .ref hc, .ref hp, .ref hg, .int 0, .int 0, .int 0, .int td, .int sd]))]) (tr := [(cJ, .long)]) hP hK hD [0] [1] rfl rfl rfl (by decide) ht_1 hvm_1 hk_1 hF_1 [0] rfl hB_1
    have hS := hS1
    have hP : va_P D vwCl [(ho, .inl (cJ, 1, .inr (.inl fo))), (h0, .inr (6, [.ref hu, .ref hs, .ref hc, .ref hp, .ref hg, .int 0, .int 0, .int 0, .int td, .int sd]))] H1 := hP
    have hD : va_D A [(ho, .inl (cJ, 1, .inr (.inl fo))), (h0, .inr (6, [.ref hu, .ref hs, .ref hc, .ref hp, .ref hg, .int 0, .int 0, .int 0, .int td, .int sd]))] := hD
    have hK : va_K D vwCl [(cJ, .long)] s := hK
    clear hS1
    refine vx_catch (name := "java/lang/IndexOutOfBoundsException") hown [] ⟨0, 9, 12, 23⟩ [⟨0, 9, 15, 15⟩] (htb.trans rfl) (fun z hz => nomatch hz) (by decide) (by decide) (hts _ zw_520) (hts _ zw_531) hce_1 hcv_1 hcl_1 ?_
    refine lv_astore_n (lv' := [(3, .ref q9_1), (0, .ref h0), (1, .int a0), (2, .ref ho)]) hx hb dL_toStall_12 rfl hl (by decide) rfl (fun ls hl => ?_)
    refine lv_iconst (v := 1) hx hb dL_toStall_13 (by decide) ?_
    exact vx_ret (W.iret (v := 1) hx hb hr (fun t ht hW => ⟨⟨1, (), rfl, rfl, z_end hP hK hD [1, 0] rfl rfl [0] rfl ht hW.alike⟩, hS.F ht⟩) hS.2.2 dL_toStall_14)
  · exact hw_1.elim
theorem dL_store_0 : decode cL_store 0 = .ok (.aload_n 2, 1) := by decide +kernel
theorem dL_store_1 : decode cL_store 1 = .ok (.iconst 0, 1) := by decide +kernel
theorem dL_store_2 : decode cL_store 2 = .ok (.aload_n 0, 1) := by decide +kernel
theorem dL_store_3 : decode cL_store 3 = .ok (.iload_n 1, 1) := by decide +kernel
theorem dL_store_4 : decode cL_store 4 = .ok (.invokevirtual 72, 3) := by decide +kernel
theorem zw_736 : Cond.methodLink RL 72 yX4_store ∈ z_Ts := z_m 736 (by decide +kernel) (by decide +kernel)
theorem zw_737 : Cond.instanceMethod yX4_store ∈ z_Ts := z_m 737 (by decide +kernel) (by decide +kernel)
theorem zw_738 : Cond.selects RX4 yX4_store yX4_store ∈ z_Ts := z_m 738 (by decide +kernel) (by decide +kernel)
theorem zw_739 : Cond.code yX4_store cX4_store 2 (some .int) ∈ z_Ts := z_m 739 (by decide +kernel) (by decide +kernel)
theorem dL_store_12 : decode cL_store 12 = .ok (.astore_n 3, 1) := by decide +kernel
theorem dL_store_13 : decode cL_store 13 = .ok (.iconst 1, 1) := by decide +kernel
theorem dL_store_14 : decode cL_store 14 = .ok (.ireturn, 1) := by decide +kernel
set_option maxHeartbeats 4000000 in
set_option maxRecDepth 100000 in
theorem f_L_store (l : Launch) (hst : l.stackTraces = false) (D : va_G) (h0 : Nat) (hu : Nat) (hs : Nat) (hc : Nat) (hp : Nat) (hg : Nat) (td : Int32) (sd : Int32) (a0 : Int32) (ho : Nat) (fo : Nat → Int64) (cJ : ClassId) (sz : Nat)  : vx_Met l yL_store [Cond.codeWith yL_store cL_store 4 (some .int) [(0, 9, 12, 23), (0, 9, 15, 15)]] ({ frames := 8, cells := 1, slots := 6, locals := 170 }) (z_Pc D [.ref h0, .int a0, .ref ho] [(h0, .inr (6, [.ref hu, .ref hs, .ref hc, .ref hp, .ref hg, .int 0, .int 0, .int 0, .int td, .int sd])), (ho, .inl (cJ, 1, .inr (.inl fo)))] [(cJ, .long)] sz) (va_Qi (fun (r : Int32) (_ : Unit) => r = 1) (fun _ t => z_W D [(h0, .inr (6, [.ref hu, .ref hs, .ref hc, .ref hp, .ref hg, .int 0, .int 0, .int 0, .int td, .int sd])), (ho, .inl (cJ, 1, .inr (.inl fo)))] [(cJ, .long)] (va_A [(h0, .inr (6, [.ref hu, .ref hs, .ref hc, .ref hp, .ref hg, .int 0, .int 0, .int 0, .int td, .int sd])), (ho, .inl (cJ, 1, .inr (.inl fo)))] sz) t) (va_A [(h0, .inr (6, [.ref hu, .ref hs, .ref hc, .ref hp, .ref hg, .int 0, .int 0, .int 0, .int td, .int sd])), (ho, .inl (cJ, 1, .inr (.inl fo)))] sz)) (z_T (False) "none" D [(h0, .inr (6, [.ref hu, .ref hs, .ref hc, .ref hp, .ref hg, .int 0, .int 0, .int 0, .int td, .int sd])), (ho, .inl (cJ, 1, .inr (.inl fo)))] [(cJ, .long)] sz) 1 6 (va_A [(h0, .inr (6, [.ref hu, .ref hs, .ref hc, .ref hp, .ref hg, .int 0, .int 0, .int 0, .int td, .int sd])), (ho, .inl (cJ, 1, .inr (.inl fo)))] sz) := by
  refine vx_ofWH (cc := cL_store) (maxL := 4) (ret := (some .int)) (hh := [(0, 9, 12, 23), (0, 9, 15, 15)]) (by decide +kernel) rfl ?_
  intro p e s m args below meth c s₁ B hml hv
  obtain ⟨rfl, hsz, hP, hK, hD0, hE, hX0⟩ := hv
  have hx := B.exec
  have hb := B.bytes
  have hr := B.returns
  have hts := z_E.ts (args := [.ref h0, .int a0, .ref ho].toArray) hE
  have hown : s.vm.findClass RL = some m.cls := findClass_of_methodNamed B.named
  have hlocks := B.notSynchronized
  have htb := vx_table (x := yL_store) B (atoms_spec (ws := [Cond.codeWith yL_store cL_store 4 (some .int) [(0, 9, 12, 23), (0, 9, 15, 15)]]) B.pre _ List.mem_cons_self)
  subst hsz
  have hD := hD0.self (sz := s.heap.size)
  generalize hAe : va_A [(h0, .inr (6, [.ref hu, .ref hs, .ref hc, .ref hp, .ref hg, .int 0, .int 0, .int 0, .int td, .int sd])), (ho, .inl (cJ, 1, .inr (.inl fo)))] s.heap.size = A at hD hX0 ⊢
  have hX : z_X D A s s.heap := hX0
  have hA : ∀ q : Nat, s.heap.size ≤ q → A q := fun q h => by rw [← hAe]; exact Or.inr h
  have hS : va_S A s.heap s.heap [] := va_S.rf
  have hP : va_P D vwCl [(h0, .inr (6, [.ref hu, .ref hs, .ref hc, .ref hp, .ref hg, .int 0, .int 0, .int 0, .int td, .int sd])), (ho, .inl (cJ, 1, .inr (.inl fo)))] s.heap := hP
  have hl := lv_entry ([.ref h0, .int a0, .ref ho]) (n := 4) (Nat.le_of_ble_eq_true rfl)
  rw [lg_entry_eq]
  generalize (lg_sl ([.ref h0, .int a0, .ref ho]) ++ List.replicate (4 - (lg_sl ([.ref h0, .int a0, .ref ho])).length) Slot.unset).toArray = ls at hl ⊢
  have hl : lv_has ls 4 [(0, .ref h0), (1, .int a0), (2, .ref ho)] := hl
  skip
  refine lv_aload_n hx hb dL_store_0 rfl (lv_at hl 2 rfl) ?_
  refine lv_iconst (v := 0) hx hb dL_store_1 (by decide) ?_
  refine lv_aload_n hx hb dL_store_2 rfl (lv_at hl 0 rfl) ?_
  refine lv_iload_n hx hb dL_store_3 rfl (lv_at hl 1 rfl) ?_
  obtain ⟨hb_1, hc_1⟩ := z_call (wc := [(h0, .inr (6, [.ref hu, .ref hs, .ref hc, .ref hp, .ref hg, .int 0, .int 0, .int 0, .int td, .int sd]))]) (tc := []) ([.ref h0, .int a0]) hP hK hD hS hA hE hX [0] rfl rfl [] rfl
  have hF_1 := va_free (wc := [(h0, .inr (6, [.ref hu, .ref hs, .ref hc, .ref hp, .ref hg, .int 0, .int 0, .int 0, .int td, .int sd]))]) hD hS hA [0] rfl
  refine vx_calli (vx_runV (As := [.int a0]) (rest := [.int 0, .ref ho]) ⟨hx, hb, hml, hown, hts⟩ (f_X4_store l hst D h0 hu hs hc hp hg td sd a0 _ ) (z_cV 1 hE zw_736 zw_737 zw_738 zw_91 zw_739 rfl rfl rfl (by decide +kernel) ⟨(Nat.le_of_ble_eq_true rfl), (Nat.le_of_ble_eq_true rfl)⟩) ⟨hb_1, va_recv hK hP (ci := 6) (q0 := 0) rfl rfl, hc_1⟩ rfl rfl hl.1 rfl (lv_room (Nat.le_of_ble_eq_true rfl)) dL_store_4 ⟨(Nat.le_of_ble_eq_true rfl), (Nat.le_of_ble_eq_true rfl)⟩) hS (fun q _ h => hF_1 q h) hF_1 (fun q _ h => hF_1 q h) (fun E_1 ce_1 q9_1 u_1 t_1 H1 locs ht_1 hvm_1 hw_1 hB_1 hz_1 hk_1 hS1 hce_1 hcv_1 hcl_1 => ?_) (fun r_1 u_1 t_1 H1 locs ht_1 hvm_1 hw_1 hB_1 hz_1 hk_1 hS1 => ?_)
  · obtain ⟨rfl, hB_1⟩ := hB_1
    obtain ⟨hP, hK, hD⟩ := z_back (wc := [(h0, .inr (6, [.ref hu, .ref hs, .ref hc, .ref hp, .ref hg, .int 0, .int 0, .int 0, .int td, .int sd]))]) (wr := [(ho, .inl (cJ, 1, .inr (.inl fo)))]) (w1 := [(h0, .inr (6, [.ref hu, .ref hs, .ref hc, .ref hp, .ref hg, .int 0, .int 0, .int 0, .int td, .int sd]))]) (tr := [(cJ, .long)]) hP hK hD [0] [1] rfl rfl rfl (by decide) ht_1 hvm_1 hk_1 hF_1 [0] rfl hB_1
    have hS := hS1
    have hP : va_P D vwCl [(ho, .inl (cJ, 1, .inr (.inl fo))), (h0, .inr (6, [.ref hu, .ref hs, .ref hc, .ref hp, .ref hg, .int 0, .int 0, .int 0, .int td, .int sd]))] H1 := hP
    have hD : va_D A [(ho, .inl (cJ, 1, .inr (.inl fo))), (h0, .inr (6, [.ref hu, .ref hs, .ref hc, .ref hp, .ref hg, .int 0, .int 0, .int 0, .int td, .int sd]))] := hD
    have hK : va_K D vwCl [(cJ, .long)] s := hK
    clear hS1
    refine vx_catch (name := "java/lang/IndexOutOfBoundsException") hown [] ⟨0, 9, 12, 23⟩ [⟨0, 9, 15, 15⟩] (htb.trans rfl) (fun z hz => nomatch hz) (by decide) (by decide) (hts _ zw_520) (hts _ zw_531) hce_1 hcv_1 hcl_1 ?_
    refine lv_astore_n (lv' := [(3, .ref q9_1), (0, .ref h0), (1, .int a0), (2, .ref ho)]) hx hb dL_store_12 rfl hl (by decide) rfl (fun ls hl => ?_)
    refine lv_iconst (v := 1) hx hb dL_store_13 (by decide) ?_
    exact vx_ret (W.iret (v := 1) hx hb hr (fun t ht hW => ⟨⟨1, (), rfl, rfl, z_end hP hK hD [1, 0] rfl rfl [0] rfl ht hW.alike⟩, hS.F ht⟩) hS.2.2 dL_store_14)
  · exact hw_1.elim
theorem dL_comes_0 : decode cL_comes 0 = .ok (.aload_n 2, 1) := by decide +kernel
theorem dL_comes_1 : decode cL_comes 1 = .ok (.iconst 0, 1) := by decide +kernel
theorem dL_comes_2 : decode cL_comes 2 = .ok (.aload_n 0, 1) := by decide +kernel
theorem dL_comes_3 : decode cL_comes 3 = .ok (.iload_n 1, 1) := by decide +kernel
theorem dL_comes_4 : decode cL_comes 4 = .ok (.invokevirtual 75, 3) := by decide +kernel
theorem zw_748 : Cond.methodLink RL 75 yX4_comes ∈ z_Ts := z_m 748 (by decide +kernel) (by decide +kernel)
theorem zw_749 : Cond.instanceMethod yX4_comes ∈ z_Ts := z_m 749 (by decide +kernel) (by decide +kernel)
theorem zw_750 : Cond.selects RX4 yX4_comes yX4_comes ∈ z_Ts := z_m 750 (by decide +kernel) (by decide +kernel)
theorem zw_751 : Cond.code yX4_comes cX4_comes 2 (some .boolean) ∈ z_Ts := z_m 751 (by decide +kernel) (by decide +kernel)
theorem dL_comes_19 : decode cL_comes 19 = .ok (.astore_n 3, 1) := by decide +kernel
theorem dL_comes_20 : decode cL_comes 20 = .ok (.iconst 1, 1) := by decide +kernel
theorem dL_comes_21 : decode cL_comes 21 = .ok (.ireturn, 1) := by decide +kernel
set_option maxHeartbeats 4000000 in
set_option maxRecDepth 100000 in
theorem f_L_comes (l : Launch) (hst : l.stackTraces = false) (D : va_G) (h0 : Nat) (hu : Nat) (hs : Nat) (hc : Nat) (hp : Nat) (hg : Nat) (td : Int32) (sd : Int32) (a0 : Int32) (ho : Nat) (fo : Nat → Int64) (cJ : ClassId) (sz : Nat)  : vx_Met l yL_comes [Cond.codeWith yL_comes cL_comes 4 (some .int) [(0, 16, 19, 23)]] ({ frames := 8, cells := 1, slots := 6, locals := 170 }) (z_Pc D [.ref h0, .int a0, .ref ho] [(h0, .inr (6, [.ref hu, .ref hs, .ref hc, .ref hp, .ref hg, .int 0, .int 0, .int 0, .int td, .int sd])), (ho, .inl (cJ, 1, .inr (.inl fo)))] [(cJ, .long)] sz) (va_Qi (fun (r : Int32) (_ : Unit) => r = 1) (fun _ t => z_W D [(h0, .inr (6, [.ref hu, .ref hs, .ref hc, .ref hp, .ref hg, .int 0, .int 0, .int 0, .int td, .int sd])), (ho, .inl (cJ, 1, .inr (.inl fo)))] [(cJ, .long)] (va_A [(h0, .inr (6, [.ref hu, .ref hs, .ref hc, .ref hp, .ref hg, .int 0, .int 0, .int 0, .int td, .int sd])), (ho, .inl (cJ, 1, .inr (.inl fo)))] sz) t) (va_A [(h0, .inr (6, [.ref hu, .ref hs, .ref hc, .ref hp, .ref hg, .int 0, .int 0, .int 0, .int td, .int sd])), (ho, .inl (cJ, 1, .inr (.inl fo)))] sz)) (z_T (False) "none" D [(h0, .inr (6, [.ref hu, .ref hs, .ref hc, .ref hp, .ref hg, .int 0, .int 0, .int 0, .int td, .int sd])), (ho, .inl (cJ, 1, .inr (.inl fo)))] [(cJ, .long)] sz) 1 6 (va_A [(h0, .inr (6, [.ref hu, .ref hs, .ref hc, .ref hp, .ref hg, .int 0, .int 0, .int 0, .int td, .int sd])), (ho, .inl (cJ, 1, .inr (.inl fo)))] sz) := by
  refine vx_ofWH (cc := cL_comes) (maxL := 4) (ret := (some .int)) (hh := [(0, 16, 19, 23)]) (by decide +kernel) rfl ?_
  intro p e s m args below meth c s₁ B hml hv
  obtain ⟨rfl, hsz, hP, hK, hD0, hE, hX0⟩ := hv
  have hx := B.exec
  have hb := B.bytes
  have hr := B.returns
  have hts := z_E.ts (args := [.ref h0, .int a0, .ref ho].toArray) hE
  have hown : s.vm.findClass RL = some m.cls := findClass_of_methodNamed B.named
  have hlocks := B.notSynchronized
  have htb := vx_table (x := yL_comes) B (atoms_spec (ws := [Cond.codeWith yL_comes cL_comes 4 (some .int) [(0, 16, 19, 23)]]) B.pre _ List.mem_cons_self)
  subst hsz
  have hD := hD0.self (sz := s.heap.size)
  generalize hAe : va_A [(h0, .inr (6, [.ref hu, .ref hs, .ref hc, .ref hp, .ref hg, .int 0, .int 0, .int 0, .int td, .int sd])), (ho, .inl (cJ, 1, .inr (.inl fo)))] s.heap.size = A at hD hX0 ⊢
  have hX : z_X D A s s.heap := hX0
  have hA : ∀ q : Nat, s.heap.size ≤ q → A q := fun q h => by rw [← hAe]; exact Or.inr h
  have hS : va_S A s.heap s.heap [] := va_S.rf
  have hP : va_P D vwCl [(h0, .inr (6, [.ref hu, .ref hs, .ref hc, .ref hp, .ref hg, .int 0, .int 0, .int 0, .int td, .int sd])), (ho, .inl (cJ, 1, .inr (.inl fo)))] s.heap := hP
  have hl := lv_entry ([.ref h0, .int a0, .ref ho]) (n := 4) (Nat.le_of_ble_eq_true rfl)
  rw [lg_entry_eq]
  generalize (lg_sl ([.ref h0, .int a0, .ref ho]) ++ List.replicate (4 - (lg_sl ([.ref h0, .int a0, .ref ho])).length) Slot.unset).toArray = ls at hl ⊢
  have hl : lv_has ls 4 [(0, .ref h0), (1, .int a0), (2, .ref ho)] := hl
  skip
  refine lv_aload_n hx hb dL_comes_0 rfl (lv_at hl 2 rfl) ?_
  refine lv_iconst (v := 0) hx hb dL_comes_1 (by decide) ?_
  refine lv_aload_n hx hb dL_comes_2 rfl (lv_at hl 0 rfl) ?_
  refine lv_iload_n hx hb dL_comes_3 rfl (lv_at hl 1 rfl) ?_
  obtain ⟨hb_1, hc_1⟩ := z_call (wc := [(h0, .inr (6, [.ref hu, .ref hs, .ref hc, .ref hp, .ref hg, .int 0, .int 0, .int 0, .int td, .int sd]))]) (tc := []) ([.ref h0, .int a0]) hP hK hD hS hA hE hX [0] rfl rfl [] rfl
  have hF_1 := va_free (wc := [(h0, .inr (6, [.ref hu, .ref hs, .ref hc, .ref hp, .ref hg, .int 0, .int 0, .int 0, .int td, .int sd]))]) hD hS hA [0] rfl
  refine vx_calli (vx_runV (As := [.int a0]) (rest := [.int 0, .ref ho]) ⟨hx, hb, hml, hown, hts⟩ (f_X4_comes l hst D h0 hu hs hc hp hg td sd a0 _ ) (z_cV 1 hE zw_748 zw_749 zw_750 zw_91 zw_751 rfl rfl rfl (by decide +kernel) ⟨(Nat.le_of_ble_eq_true rfl), (Nat.le_of_ble_eq_true rfl)⟩) ⟨hb_1, va_recv hK hP (ci := 6) (q0 := 0) rfl rfl, hc_1⟩ rfl rfl hl.1 rfl (lv_room (Nat.le_of_ble_eq_true rfl)) dL_comes_4 ⟨(Nat.le_of_ble_eq_true rfl), (Nat.le_of_ble_eq_true rfl)⟩) hS (fun q _ h => hF_1 q h) hF_1 (fun q _ h => hF_1 q h) (fun E_1 ce_1 q9_1 u_1 t_1 H1 locs ht_1 hvm_1 hw_1 hB_1 hz_1 hk_1 hS1 hce_1 hcv_1 hcl_1 => ?_) (fun r_1 u_1 t_1 H1 locs ht_1 hvm_1 hw_1 hB_1 hz_1 hk_1 hS1 => ?_)
  · obtain ⟨rfl, hB_1⟩ := hB_1
    obtain ⟨hP, hK, hD⟩ := z_back (wc := [(h0, .inr (6, [.ref hu, .ref hs, .ref hc, .ref hp, .ref hg, .int 0, .int 0, .int 0, .int td, .int sd]))]) (wr := [(ho, .inl (cJ, 1, .inr (.inl fo)))]) (w1 := [(h0, .inr (6, [.ref hu, .ref hs, .ref hc, .ref hp, .ref hg, .int 0, .int 0, .int 0, .int td, .int sd]))]) (tr := [(cJ, .long)]) hP hK hD [0] [1] rfl rfl rfl (by decide) ht_1 hvm_1 hk_1 hF_1 [0] rfl hB_1
    have hS := hS1
    have hP : va_P D vwCl [(ho, .inl (cJ, 1, .inr (.inl fo))), (h0, .inr (6, [.ref hu, .ref hs, .ref hc, .ref hp, .ref hg, .int 0, .int 0, .int 0, .int td, .int sd]))] H1 := hP
    have hD : va_D A [(ho, .inl (cJ, 1, .inr (.inl fo))), (h0, .inr (6, [.ref hu, .ref hs, .ref hc, .ref hp, .ref hg, .int 0, .int 0, .int 0, .int td, .int sd]))] := hD
    have hK : va_K D vwCl [(cJ, .long)] s := hK
    clear hS1
    refine vx_catch (name := "java/lang/IndexOutOfBoundsException") hown [] ⟨0, 16, 19, 23⟩ [] (htb.trans rfl) (fun z hz => nomatch hz) (by decide) (by decide) (hts _ zw_520) (hts _ zw_531) hce_1 hcv_1 hcl_1 ?_
    refine lv_astore_n (lv' := [(3, .ref q9_1), (0, .ref h0), (1, .int a0), (2, .ref ho)]) hx hb dL_comes_19 rfl hl (by decide) rfl (fun ls hl => ?_)
    refine lv_iconst (v := 1) hx hb dL_comes_20 (by decide) ?_
    exact vx_ret (W.iret (v := 1) hx hb hr (fun t ht hW => ⟨⟨1, (), rfl, rfl, z_end hP hK hD [1, 0] rfl rfl [0] rfl ht hW.alike⟩, hS.F ht⟩) hS.2.2 dL_comes_21)
  · exact hw_1.elim
theorem dL_mayBeShut_0 : decode cL_mayBeShut 0 = .ok (.aload_n 2, 1) := by decide +kernel
theorem dL_mayBeShut_1 : decode cL_mayBeShut 1 = .ok (.iconst 0, 1) := by decide +kernel
theorem dL_mayBeShut_2 : decode cL_mayBeShut 2 = .ok (.aload_n 0, 1) := by decide +kernel
theorem dL_mayBeShut_3 : decode cL_mayBeShut 3 = .ok (.iload_n 1, 1) := by decide +kernel
theorem dL_mayBeShut_4 : decode cL_mayBeShut 4 = .ok (.invokevirtual 79, 3) := by decide +kernel
theorem zw_755 : Cond.methodLink RL 79 yX4_mayBeShut ∈ z_Ts := z_m 755 (by decide +kernel) (by decide +kernel)
theorem zw_756 : Cond.instanceMethod yX4_mayBeShut ∈ z_Ts := z_m 756 (by decide +kernel) (by decide +kernel)
theorem zw_757 : Cond.selects RX4 yX4_mayBeShut yX4_mayBeShut ∈ z_Ts := z_m 757 (by decide +kernel) (by decide +kernel)
theorem zw_758 : Cond.code yX4_mayBeShut cX4_mayBeShut 2 (some .int) ∈ z_Ts := z_m 758 (by decide +kernel) (by decide +kernel)
theorem dL_mayBeShut_12 : decode cL_mayBeShut 12 = .ok (.astore_n 3, 1) := by decide +kernel
theorem dL_mayBeShut_13 : decode cL_mayBeShut 13 = .ok (.iconst 1, 1) := by decide +kernel
theorem dL_mayBeShut_14 : decode cL_mayBeShut 14 = .ok (.ireturn, 1) := by decide +kernel
set_option maxHeartbeats 4000000 in
set_option maxRecDepth 100000 in
theorem f_L_mayBeShut (l : Launch) (hst : l.stackTraces = false) (D : va_G) (h0 : Nat) (hu : Nat) (hs : Nat) (hc : Nat) (hp : Nat) (hg : Nat) (td : Int32) (sd : Int32) (a0 : Int32) (ho : Nat) (fo : Nat → Int64) (cJ : ClassId) (sz : Nat)  : vx_Met l yL_mayBeShut [Cond.codeWith yL_mayBeShut cL_mayBeShut 4 (some .int) [(0, 9, 12, 23)]] ({ frames := 8, cells := 1, slots := 6, locals := 170 }) (z_Pc D [.ref h0, .int a0, .ref ho] [(h0, .inr (6, [.ref hu, .ref hs, .ref hc, .ref hp, .ref hg, .int 0, .int 0, .int 0, .int td, .int sd])), (ho, .inl (cJ, 1, .inr (.inl fo)))] [(cJ, .long)] sz) (va_Qi (fun (r : Int32) (_ : Unit) => r = 1) (fun _ t => z_W D [(h0, .inr (6, [.ref hu, .ref hs, .ref hc, .ref hp, .ref hg, .int 0, .int 0, .int 0, .int td, .int sd])), (ho, .inl (cJ, 1, .inr (.inl fo)))] [(cJ, .long)] (va_A [(h0, .inr (6, [.ref hu, .ref hs, .ref hc, .ref hp, .ref hg, .int 0, .int 0, .int 0, .int td, .int sd])), (ho, .inl (cJ, 1, .inr (.inl fo)))] sz) t) (va_A [(h0, .inr (6, [.ref hu, .ref hs, .ref hc, .ref hp, .ref hg, .int 0, .int 0, .int 0, .int td, .int sd])), (ho, .inl (cJ, 1, .inr (.inl fo)))] sz)) (z_T (False) "none" D [(h0, .inr (6, [.ref hu, .ref hs, .ref hc, .ref hp, .ref hg, .int 0, .int 0, .int 0, .int td, .int sd])), (ho, .inl (cJ, 1, .inr (.inl fo)))] [(cJ, .long)] sz) 1 6 (va_A [(h0, .inr (6, [.ref hu, .ref hs, .ref hc, .ref hp, .ref hg, .int 0, .int 0, .int 0, .int td, .int sd])), (ho, .inl (cJ, 1, .inr (.inl fo)))] sz) := by
  refine vx_ofWH (cc := cL_mayBeShut) (maxL := 4) (ret := (some .int)) (hh := [(0, 9, 12, 23)]) (by decide +kernel) rfl ?_
  intro p e s m args below meth c s₁ B hml hv
  obtain ⟨rfl, hsz, hP, hK, hD0, hE, hX0⟩ := hv
  have hx := B.exec
  have hb := B.bytes
  have hr := B.returns
  have hts := z_E.ts (args := [.ref h0, .int a0, .ref ho].toArray) hE
  have hown : s.vm.findClass RL = some m.cls := findClass_of_methodNamed B.named
  have hlocks := B.notSynchronized
  have htb := vx_table (x := yL_mayBeShut) B (atoms_spec (ws := [Cond.codeWith yL_mayBeShut cL_mayBeShut 4 (some .int) [(0, 9, 12, 23)]]) B.pre _ List.mem_cons_self)
  subst hsz
  have hD := hD0.self (sz := s.heap.size)
  generalize hAe : va_A [(h0, .inr (6, [.ref hu, .ref hs, .ref hc, .ref hp, .ref hg, .int 0, .int 0, .int 0, .int td, .int sd])), (ho, .inl (cJ, 1, .inr (.inl fo)))] s.heap.size = A at hD hX0 ⊢
  have hX : z_X D A s s.heap := hX0
  have hA : ∀ q : Nat, s.heap.size ≤ q → A q := fun q h => by rw [← hAe]; exact Or.inr h
  have hS : va_S A s.heap s.heap [] := va_S.rf
  have hP : va_P D vwCl [(h0, .inr (6, [.ref hu, .ref hs, .ref hc, .ref hp, .ref hg, .int 0, .int 0, .int 0, .int td, .int sd])), (ho, .inl (cJ, 1, .inr (.inl fo)))] s.heap := hP
  have hl := lv_entry ([.ref h0, .int a0, .ref ho]) (n := 4) (Nat.le_of_ble_eq_true rfl)
  rw [lg_entry_eq]
  generalize (lg_sl ([.ref h0, .int a0, .ref ho]) ++ List.replicate (4 - (lg_sl ([.ref h0, .int a0, .ref ho])).length) Slot.unset).toArray = ls at hl ⊢
  have hl : lv_has ls 4 [(0, .ref h0), (1, .int a0), (2, .ref ho)] := hl
  skip
  refine lv_aload_n hx hb dL_mayBeShut_0 rfl (lv_at hl 2 rfl) ?_
  refine lv_iconst (v := 0) hx hb dL_mayBeShut_1 (by decide) ?_
  refine lv_aload_n hx hb dL_mayBeShut_2 rfl (lv_at hl 0 rfl) ?_
  refine lv_iload_n hx hb dL_mayBeShut_3 rfl (lv_at hl 1 rfl) ?_
  obtain ⟨hb_1, hc_1⟩ := z_call (wc := [(h0, .inr (6, [.ref hu, .ref hs, .ref hc, .ref hp, .ref hg, .int 0, .int 0, .int 0, .int td, .int sd]))]) (tc := []) ([.ref h0, .int a0]) hP hK hD hS hA hE hX [0] rfl rfl [] rfl
  have hF_1 := va_free (wc := [(h0, .inr (6, [.ref hu, .ref hs, .ref hc, .ref hp, .ref hg, .int 0, .int 0, .int 0, .int td, .int sd]))]) hD hS hA [0] rfl
  refine vx_calli (vx_runV (As := [.int a0]) (rest := [.int 0, .ref ho]) ⟨hx, hb, hml, hown, hts⟩ (f_X4_mayBeShut l hst D h0 hu hs hc hp hg td sd a0 _ ) (z_cV 1 hE zw_755 zw_756 zw_757 zw_91 zw_758 rfl rfl rfl (by decide +kernel) ⟨(Nat.le_of_ble_eq_true rfl), (Nat.le_of_ble_eq_true rfl)⟩) ⟨hb_1, va_recv hK hP (ci := 6) (q0 := 0) rfl rfl, hc_1⟩ rfl rfl hl.1 rfl (lv_room (Nat.le_of_ble_eq_true rfl)) dL_mayBeShut_4 ⟨(Nat.le_of_ble_eq_true rfl), (Nat.le_of_ble_eq_true rfl)⟩) hS (fun q _ h => hF_1 q h) hF_1 (fun q _ h => hF_1 q h) (fun E_1 ce_1 q9_1 u_1 t_1 H1 locs ht_1 hvm_1 hw_1 hB_1 hz_1 hk_1 hS1 hce_1 hcv_1 hcl_1 => ?_) (fun r_1 u_1 t_1 H1 locs ht_1 hvm_1 hw_1 hB_1 hz_1 hk_1 hS1 => ?_)
  · obtain ⟨rfl, hB_1⟩ := hB_1
    obtain ⟨hP, hK, hD⟩ := z_back (wc := [(h0, .inr (6, [.ref hu, .ref hs, .ref hc, .ref hp, .ref hg, .int 0, .int 0, .int 0, .int td, .int sd]))]) (wr := [(ho, .inl (cJ, 1, .inr (.inl fo)))]) (w1 := [(h0, .inr (6, [.ref hu, .ref hs, .ref hc, .ref hp, .ref hg, .int 0, .int 0, .int 0, .int td, .int sd]))]) (tr := [(cJ, .long)]) hP hK hD [0] [1] rfl rfl rfl (by decide) ht_1 hvm_1 hk_1 hF_1 [0] rfl hB_1
    have hS := hS1
    have hP : va_P D vwCl [(ho, .inl (cJ, 1, .inr (.inl fo))), (h0, .inr (6, [.ref hu, .ref hs, .ref hc, .ref hp, .ref hg, .int 0, .int 0, .int 0, .int td, .int sd]))] H1 := hP
    have hD : va_D A [(ho, .inl (cJ, 1, .inr (.inl fo))), (h0, .inr (6, [.ref hu, .ref hs, .ref hc, .ref hp, .ref hg, .int 0, .int 0, .int 0, .int td, .int sd]))] := hD
    have hK : va_K D vwCl [(cJ, .long)] s := hK
    clear hS1
    refine vx_catch (name := "java/lang/IndexOutOfBoundsException") hown [] ⟨0, 9, 12, 23⟩ [] (htb.trans rfl) (fun z hz => nomatch hz) (by decide) (by decide) (hts _ zw_520) (hts _ zw_531) hce_1 hcv_1 hcl_1 ?_
    refine lv_astore_n (lv' := [(3, .ref q9_1), (0, .ref h0), (1, .int a0), (2, .ref ho)]) hx hb dL_mayBeShut_12 rfl hl (by decide) rfl (fun ls hl => ?_)
    refine lv_iconst (v := 1) hx hb dL_mayBeShut_13 (by decide) ?_
    exact vx_ret (W.iret (v := 1) hx hb hr (fun t ht hW => ⟨⟨1, (), rfl, rfl, z_end hP hK hD [1, 0] rfl rfl [0] rfl ht hW.alike⟩, hS.F ht⟩) hS.2.2 dL_mayBeShut_14)
  · exact hw_1.elim
theorem dL_seen_0 : decode cL_seen 0 = .ok (.aload_n 2, 1) := by decide +kernel
theorem dL_seen_1 : decode cL_seen 1 = .ok (.iconst 0, 1) := by decide +kernel
theorem dL_seen_2 : decode cL_seen 2 = .ok (.aload_n 0, 1) := by decide +kernel
theorem dL_seen_3 : decode cL_seen 3 = .ok (.iload_n 1, 1) := by decide +kernel
theorem dL_seen_4 : decode cL_seen 4 = .ok (.invokevirtual 82, 3) := by decide +kernel
theorem zw_762 : Cond.methodLink RL 82 yX4_seen ∈ z_Ts := z_m 762 (by decide +kernel) (by decide +kernel)
theorem zw_763 : Cond.instanceMethod yX4_seen ∈ z_Ts := z_m 763 (by decide +kernel) (by decide +kernel)
theorem zw_764 : Cond.selects RX4 yX4_seen yX4_seen ∈ z_Ts := z_m 764 (by decide +kernel) (by decide +kernel)
theorem zw_765 : Cond.code yX4_seen cX4_seen 2 (some .int) ∈ z_Ts := z_m 765 (by decide +kernel) (by decide +kernel)
theorem dL_seen_12 : decode cL_seen 12 = .ok (.astore_n 3, 1) := by decide +kernel
theorem dL_seen_13 : decode cL_seen 13 = .ok (.iconst 1, 1) := by decide +kernel
theorem dL_seen_14 : decode cL_seen 14 = .ok (.ireturn, 1) := by decide +kernel
set_option maxHeartbeats 4000000 in
set_option maxRecDepth 100000 in
theorem f_L_seen (l : Launch) (hst : l.stackTraces = false) (D : va_G) (h0 : Nat) (hu : Nat) (hs : Nat) (hc : Nat) (hp : Nat) (hg : Nat) (td : Int32) (sd : Int32) (a0 : Int32) (ho : Nat) (fo : Nat → Int64) (cJ : ClassId) (sz : Nat)  : vx_Met l yL_seen [Cond.codeWith yL_seen cL_seen 4 (some .int) [(0, 9, 12, 23)]] ({ frames := 8, cells := 1, slots := 6, locals := 170 }) (z_Pc D [.ref h0, .int a0, .ref ho] [(h0, .inr (6, [.ref hu, .ref hs, .ref hc, .ref hp, .ref hg, .int 0, .int 0, .int 0, .int td, .int sd])), (ho, .inl (cJ, 1, .inr (.inl fo)))] [(cJ, .long)] sz) (va_Qi (fun (r : Int32) (_ : Unit) => r = 1) (fun _ t => z_W D [(h0, .inr (6, [.ref hu, .ref hs, .ref hc, .ref hp, .ref hg, .int 0, .int 0, .int 0, .int td, .int sd])), (ho, .inl (cJ, 1, .inr (.inl fo)))] [(cJ, .long)] (va_A [(h0, .inr (6, [.ref hu, .ref hs, .ref hc, .ref hp, .ref hg, .int 0, .int 0, .int 0, .int td, .int sd])), (ho, .inl (cJ, 1, .inr (.inl fo)))] sz) t) (va_A [(h0, .inr (6, [.ref hu, .ref hs, .ref hc, .ref hp, .ref hg, .int 0, .int 0, .int 0, .int td, .int sd])), (ho, .inl (cJ, 1, .inr (.inl fo)))] sz)) (z_T (False) "none" D [(h0, .inr (6, [.ref hu, .ref hs, .ref hc, .ref hp, .ref hg, .int 0, .int 0, .int 0, .int td, .int sd])), (ho, .inl (cJ, 1, .inr (.inl fo)))] [(cJ, .long)] sz) 1 6 (va_A [(h0, .inr (6, [.ref hu, .ref hs, .ref hc, .ref hp, .ref hg, .int 0, .int 0, .int 0, .int td, .int sd])), (ho, .inl (cJ, 1, .inr (.inl fo)))] sz) := by
  refine vx_ofWH (cc := cL_seen) (maxL := 4) (ret := (some .int)) (hh := [(0, 9, 12, 23)]) (by decide +kernel) rfl ?_
  intro p e s m args below meth c s₁ B hml hv
  obtain ⟨rfl, hsz, hP, hK, hD0, hE, hX0⟩ := hv
  have hx := B.exec
  have hb := B.bytes
  have hr := B.returns
  have hts := z_E.ts (args := [.ref h0, .int a0, .ref ho].toArray) hE
  have hown : s.vm.findClass RL = some m.cls := findClass_of_methodNamed B.named
  have hlocks := B.notSynchronized
  have htb := vx_table (x := yL_seen) B (atoms_spec (ws := [Cond.codeWith yL_seen cL_seen 4 (some .int) [(0, 9, 12, 23)]]) B.pre _ List.mem_cons_self)
  subst hsz
  have hD := hD0.self (sz := s.heap.size)
  generalize hAe : va_A [(h0, .inr (6, [.ref hu, .ref hs, .ref hc, .ref hp, .ref hg, .int 0, .int 0, .int 0, .int td, .int sd])), (ho, .inl (cJ, 1, .inr (.inl fo)))] s.heap.size = A at hD hX0 ⊢
  have hX : z_X D A s s.heap := hX0
  have hA : ∀ q : Nat, s.heap.size ≤ q → A q := fun q h => by rw [← hAe]; exact Or.inr h
  have hS : va_S A s.heap s.heap [] := va_S.rf
  have hP : va_P D vwCl [(h0, .inr (6, [.ref hu, .ref hs, .ref hc, .ref hp, .ref hg, .int 0, .int 0, .int 0, .int td, .int sd])), (ho, .inl (cJ, 1, .inr (.inl fo)))] s.heap := hP
  have hl := lv_entry ([.ref h0, .int a0, .ref ho]) (n := 4) (Nat.le_of_ble_eq_true rfl)
  rw [lg_entry_eq]
  generalize (lg_sl ([.ref h0, .int a0, .ref ho]) ++ List.replicate (4 - (lg_sl ([.ref h0, .int a0, .ref ho])).length) Slot.unset).toArray = ls at hl ⊢
  have hl : lv_has ls 4 [(0, .ref h0), (1, .int a0), (2, .ref ho)] := hl
  skip
  refine lv_aload_n hx hb dL_seen_0 rfl (lv_at hl 2 rfl) ?_
  refine lv_iconst (v := 0) hx hb dL_seen_1 (by decide) ?_
  refine lv_aload_n hx hb dL_seen_2 rfl (lv_at hl 0 rfl) ?_
  refine lv_iload_n hx hb dL_seen_3 rfl (lv_at hl 1 rfl) ?_
  obtain ⟨hb_1, hc_1⟩ := z_call (wc := [(h0, .inr (6, [.ref hu, .ref hs, .ref hc, .ref hp, .ref hg, .int 0, .int 0, .int 0, .int td, .int sd]))]) (tc := []) ([.ref h0, .int a0]) hP hK hD hS hA hE hX [0] rfl rfl [] rfl
  have hF_1 := va_free (wc := [(h0, .inr (6, [.ref hu, .ref hs, .ref hc, .ref hp, .ref hg, .int 0, .int 0, .int 0, .int td, .int sd]))]) hD hS hA [0] rfl
  refine vx_calli (vx_runV (As := [.int a0]) (rest := [.int 0, .ref ho]) ⟨hx, hb, hml, hown, hts⟩ (f_X4_seen l hst D h0 hu hs hc hp hg td sd a0 _ ) (z_cV 1 hE zw_762 zw_763 zw_764 zw_91 zw_765 rfl rfl rfl (by decide +kernel) ⟨(Nat.le_of_ble_eq_true rfl), (Nat.le_of_ble_eq_true rfl)⟩) ⟨hb_1, va_recv hK hP (ci := 6) (q0 := 0) rfl rfl, hc_1⟩ rfl rfl hl.1 rfl (lv_room (Nat.le_of_ble_eq_true rfl)) dL_seen_4 ⟨(Nat.le_of_ble_eq_true rfl), (Nat.le_of_ble_eq_true rfl)⟩) hS (fun q _ h => hF_1 q h) hF_1 (fun q _ h => hF_1 q h) (fun E_1 ce_1 q9_1 u_1 t_1 H1 locs ht_1 hvm_1 hw_1 hB_1 hz_1 hk_1 hS1 hce_1 hcv_1 hcl_1 => ?_) (fun r_1 u_1 t_1 H1 locs ht_1 hvm_1 hw_1 hB_1 hz_1 hk_1 hS1 => ?_)
  · obtain ⟨rfl, hB_1⟩ := hB_1
    obtain ⟨hP, hK, hD⟩ := z_back (wc := [(h0, .inr (6, [.ref hu, .ref hs, .ref hc, .ref hp, .ref hg, .int 0, .int 0, .int 0, .int td, .int sd]))]) (wr := [(ho, .inl (cJ, 1, .inr (.inl fo)))]) (w1 := [(h0, .inr (6, [.ref hu, .ref hs, .ref hc, .ref hp, .ref hg, .int 0, .int 0, .int 0, .int td, .int sd]))]) (tr := [(cJ, .long)]) hP hK hD [0] [1] rfl rfl rfl (by decide) ht_1 hvm_1 hk_1 hF_1 [0] rfl hB_1
    have hS := hS1
    have hP : va_P D vwCl [(ho, .inl (cJ, 1, .inr (.inl fo))), (h0, .inr (6, [.ref hu, .ref hs, .ref hc, .ref hp, .ref hg, .int 0, .int 0, .int 0, .int td, .int sd]))] H1 := hP
    have hD : va_D A [(ho, .inl (cJ, 1, .inr (.inl fo))), (h0, .inr (6, [.ref hu, .ref hs, .ref hc, .ref hp, .ref hg, .int 0, .int 0, .int 0, .int td, .int sd]))] := hD
    have hK : va_K D vwCl [(cJ, .long)] s := hK
    clear hS1
    refine vx_catch (name := "java/lang/IndexOutOfBoundsException") hown [] ⟨0, 9, 12, 23⟩ [] (htb.trans rfl) (fun z hz => nomatch hz) (by decide) (by decide) (hts _ zw_520) (hts _ zw_531) hce_1 hcv_1 hcl_1 ?_
    refine lv_astore_n (lv' := [(3, .ref q9_1), (0, .ref h0), (1, .int a0), (2, .ref ho)]) hx hb dL_seen_12 rfl hl (by decide) rfl (fun ls hl => ?_)
    refine lv_iconst (v := 1) hx hb dL_seen_13 (by decide) ?_
    exact vx_ret (W.iret (v := 1) hx hb hr (fun t ht hW => ⟨⟨1, (), rfl, rfl, z_end hP hK hD [1, 0] rfl rfl [0] rfl ht hW.alike⟩, hS.F ht⟩) hS.2.2 dL_seen_14)
  · exact hw_1.elim
theorem dL_known_0 : decode cL_known 0 = .ok (.aload_n 2, 1) := by decide +kernel
theorem dL_known_1 : decode cL_known 1 = .ok (.iconst 0, 1) := by decide +kernel
theorem dL_known_2 : decode cL_known 2 = .ok (.aload_n 0, 1) := by decide +kernel
theorem dL_known_3 : decode cL_known 3 = .ok (.iload_n 1, 1) := by decide +kernel
theorem dL_known_4 : decode cL_known 4 = .ok (.invokevirtual 85, 3) := by decide +kernel
theorem zw_779 : Cond.methodLink RL 85 yX4_known ∈ z_Ts := z_m 779 (by decide +kernel) (by decide +kernel)
theorem zw_780 : Cond.instanceMethod yX4_known ∈ z_Ts := z_m 780 (by decide +kernel) (by decide +kernel)
theorem zw_781 : Cond.selects RX4 yX4_known yX4_known ∈ z_Ts := z_m 781 (by decide +kernel) (by decide +kernel)
theorem zw_782 : Cond.code yX4_known cX4_known 2 (some .int) ∈ z_Ts := z_m 782 (by decide +kernel) (by decide +kernel)
theorem dL_known_12 : decode cL_known 12 = .ok (.astore_n 3, 1) := by decide +kernel
theorem dL_known_13 : decode cL_known 13 = .ok (.iconst 1, 1) := by decide +kernel
theorem dL_known_14 : decode cL_known 14 = .ok (.ireturn, 1) := by decide +kernel
set_option maxHeartbeats 4000000 in
set_option maxRecDepth 100000 in
theorem f_L_known (l : Launch) (hst : l.stackTraces = false) (D : va_G) (h0 : Nat) (hu : Nat) (hs : Nat) (hc : Nat) (hp : Nat) (hg : Nat) (td : Int32) (sd : Int32) (a0 : Int32) (ho : Nat) (fo : Nat → Int64) (cJ : ClassId) (sz : Nat)  : vx_Met l yL_known [Cond.codeWith yL_known cL_known 4 (some .int) [(0, 9, 12, 23)]] ({ frames := 8, cells := 1, slots := 6, locals := 170 }) (z_Pc D [.ref h0, .int a0, .ref ho] [(h0, .inr (6, [.ref hu, .ref hs, .ref hc, .ref hp, .ref hg, .int 0, .int 0, .int 0, .int td, .int sd])), (ho, .inl (cJ, 1, .inr (.inl fo)))] [(cJ, .long)] sz) (va_Qi (fun (r : Int32) (_ : Unit) => r = 1) (fun _ t => z_W D [(h0, .inr (6, [.ref hu, .ref hs, .ref hc, .ref hp, .ref hg, .int 0, .int 0, .int 0, .int td, .int sd])), (ho, .inl (cJ, 1, .inr (.inl fo)))] [(cJ, .long)] (va_A [(h0, .inr (6, [.ref hu, .ref hs, .ref hc, .ref hp, .ref hg, .int 0, .int 0, .int 0, .int td, .int sd])), (ho, .inl (cJ, 1, .inr (.inl fo)))] sz) t) (va_A [(h0, .inr (6, [.ref hu, .ref hs, .ref hc, .ref hp, .ref hg, .int 0, .int 0, .int 0, .int td, .int sd])), (ho, .inl (cJ, 1, .inr (.inl fo)))] sz)) (z_T (False) "none" D [(h0, .inr (6, [.ref hu, .ref hs, .ref hc, .ref hp, .ref hg, .int 0, .int 0, .int 0, .int td, .int sd])), (ho, .inl (cJ, 1, .inr (.inl fo)))] [(cJ, .long)] sz) 1 6 (va_A [(h0, .inr (6, [.ref hu, .ref hs, .ref hc, .ref hp, .ref hg, .int 0, .int 0, .int 0, .int td, .int sd])), (ho, .inl (cJ, 1, .inr (.inl fo)))] sz) := by
  refine vx_ofWH (cc := cL_known) (maxL := 4) (ret := (some .int)) (hh := [(0, 9, 12, 23)]) (by decide +kernel) rfl ?_
  intro p e s m args below meth c s₁ B hml hv
  obtain ⟨rfl, hsz, hP, hK, hD0, hE, hX0⟩ := hv
  have hx := B.exec
  have hb := B.bytes
  have hr := B.returns
  have hts := z_E.ts (args := [.ref h0, .int a0, .ref ho].toArray) hE
  have hown : s.vm.findClass RL = some m.cls := findClass_of_methodNamed B.named
  have hlocks := B.notSynchronized
  have htb := vx_table (x := yL_known) B (atoms_spec (ws := [Cond.codeWith yL_known cL_known 4 (some .int) [(0, 9, 12, 23)]]) B.pre _ List.mem_cons_self)
  subst hsz
  have hD := hD0.self (sz := s.heap.size)
  generalize hAe : va_A [(h0, .inr (6, [.ref hu, .ref hs, .ref hc, .ref hp, .ref hg, .int 0, .int 0, .int 0, .int td, .int sd])), (ho, .inl (cJ, 1, .inr (.inl fo)))] s.heap.size = A at hD hX0 ⊢
  have hX : z_X D A s s.heap := hX0
  have hA : ∀ q : Nat, s.heap.size ≤ q → A q := fun q h => by rw [← hAe]; exact Or.inr h
  have hS : va_S A s.heap s.heap [] := va_S.rf
  have hP : va_P D vwCl [(h0, .inr (6, [.ref hu, .ref hs, .ref hc, .ref hp, .ref hg, .int 0, .int 0, .int 0, .int td, .int sd])), (ho, .inl (cJ, 1, .inr (.inl fo)))] s.heap := hP
  have hl := lv_entry ([.ref h0, .int a0, .ref ho]) (n := 4) (Nat.le_of_ble_eq_true rfl)
  rw [lg_entry_eq]
  generalize (lg_sl ([.ref h0, .int a0, .ref ho]) ++ List.replicate (4 - (lg_sl ([.ref h0, .int a0, .ref ho])).length) Slot.unset).toArray = ls at hl ⊢
  have hl : lv_has ls 4 [(0, .ref h0), (1, .int a0), (2, .ref ho)] := hl
  skip
  refine lv_aload_n hx hb dL_known_0 rfl (lv_at hl 2 rfl) ?_
  refine lv_iconst (v := 0) hx hb dL_known_1 (by decide) ?_
  refine lv_aload_n hx hb dL_known_2 rfl (lv_at hl 0 rfl) ?_
  refine lv_iload_n hx hb dL_known_3 rfl (lv_at hl 1 rfl) ?_
  obtain ⟨hb_1, hc_1⟩ := z_call (wc := [(h0, .inr (6, [.ref hu, .ref hs, .ref hc, .ref hp, .ref hg, .int 0, .int 0, .int 0, .int td, .int sd]))]) (tc := []) ([.ref h0, .int a0]) hP hK hD hS hA hE hX [0] rfl rfl [] rfl
  have hF_1 := va_free (wc := [(h0, .inr (6, [.ref hu, .ref hs, .ref hc, .ref hp, .ref hg, .int 0, .int 0, .int 0, .int td, .int sd]))]) hD hS hA [0] rfl
  refine vx_calli (vx_runV (As := [.int a0]) (rest := [.int 0, .ref ho]) ⟨hx, hb, hml, hown, hts⟩ (f_X4_known l hst D h0 hu hs hc hp hg td sd a0 _ ) (z_cV 1 hE zw_779 zw_780 zw_781 zw_91 zw_782 rfl rfl rfl (by decide +kernel) ⟨(Nat.le_of_ble_eq_true rfl), (Nat.le_of_ble_eq_true rfl)⟩) ⟨hb_1, va_recv hK hP (ci := 6) (q0 := 0) rfl rfl, hc_1⟩ rfl rfl hl.1 rfl (lv_room (Nat.le_of_ble_eq_true rfl)) dL_known_4 ⟨(Nat.le_of_ble_eq_true rfl), (Nat.le_of_ble_eq_true rfl)⟩) hS (fun q _ h => hF_1 q h) hF_1 (fun q _ h => hF_1 q h) (fun E_1 ce_1 q9_1 u_1 t_1 H1 locs ht_1 hvm_1 hw_1 hB_1 hz_1 hk_1 hS1 hce_1 hcv_1 hcl_1 => ?_) (fun r_1 u_1 t_1 H1 locs ht_1 hvm_1 hw_1 hB_1 hz_1 hk_1 hS1 => ?_)
  · obtain ⟨rfl, hB_1⟩ := hB_1
    obtain ⟨hP, hK, hD⟩ := z_back (wc := [(h0, .inr (6, [.ref hu, .ref hs, .ref hc, .ref hp, .ref hg, .int 0, .int 0, .int 0, .int td, .int sd]))]) (wr := [(ho, .inl (cJ, 1, .inr (.inl fo)))]) (w1 := [(h0, .inr (6, [.ref hu, .ref hs, .ref hc, .ref hp, .ref hg, .int 0, .int 0, .int 0, .int td, .int sd]))]) (tr := [(cJ, .long)]) hP hK hD [0] [1] rfl rfl rfl (by decide) ht_1 hvm_1 hk_1 hF_1 [0] rfl hB_1
    have hS := hS1
    have hP : va_P D vwCl [(ho, .inl (cJ, 1, .inr (.inl fo))), (h0, .inr (6, [.ref hu, .ref hs, .ref hc, .ref hp, .ref hg, .int 0, .int 0, .int 0, .int td, .int sd]))] H1 := hP
    have hD : va_D A [(ho, .inl (cJ, 1, .inr (.inl fo))), (h0, .inr (6, [.ref hu, .ref hs, .ref hc, .ref hp, .ref hg, .int 0, .int 0, .int 0, .int td, .int sd]))] := hD
    have hK : va_K D vwCl [(cJ, .long)] s := hK
    clear hS1
    refine vx_catch (name := "java/lang/IndexOutOfBoundsException") hown [] ⟨0, 9, 12, 23⟩ [] (htb.trans rfl) (fun z hz => nomatch hz) (by decide) (by decide) (hts _ zw_520) (hts _ zw_531) hce_1 hcv_1 hcl_1 ?_
    refine lv_astore_n (lv' := [(3, .ref q9_1), (0, .ref h0), (1, .int a0), (2, .ref ho)]) hx hb dL_known_12 rfl hl (by decide) rfl (fun ls hl => ?_)
    refine lv_iconst (v := 1) hx hb dL_known_13 (by decide) ?_
    exact vx_ret (W.iret (v := 1) hx hb hr (fun t ht hW => ⟨⟨1, (), rfl, rfl, z_end hP hK hD [1, 0] rfl rfl [0] rfl ht hW.alike⟩, hS.F ht⟩) hS.2.2 dL_known_14)
  · exact hw_1.elim
theorem dL_isDusty_0 : decode cL_isDusty 0 = .ok (.aload_n 2, 1) := by decide +kernel
theorem dL_isDusty_1 : decode cL_isDusty 1 = .ok (.iconst 0, 1) := by decide +kernel
theorem dL_isDusty_2 : decode cL_isDusty 2 = .ok (.aload_n 0, 1) := by decide +kernel
theorem dL_isDusty_3 : decode cL_isDusty 3 = .ok (.iload_n 1, 1) := by decide +kernel
theorem dL_isDusty_4 : decode cL_isDusty 4 = .ok (.invokevirtual 88, 3) := by decide +kernel
theorem zw_786 : Cond.methodLink RL 88 yX4_isDusty ∈ z_Ts := z_m 786 (by decide +kernel) (by decide +kernel)
theorem zw_787 : Cond.instanceMethod yX4_isDusty ∈ z_Ts := z_m 787 (by decide +kernel) (by decide +kernel)
theorem zw_788 : Cond.selects RX4 yX4_isDusty yX4_isDusty ∈ z_Ts := z_m 788 (by decide +kernel) (by decide +kernel)
theorem zw_789 : Cond.code yX4_isDusty cX4_isDusty 2 (some .boolean) ∈ z_Ts := z_m 789 (by decide +kernel) (by decide +kernel)
theorem dL_isDusty_19 : decode cL_isDusty 19 = .ok (.astore_n 3, 1) := by decide +kernel
theorem dL_isDusty_20 : decode cL_isDusty 20 = .ok (.iconst 1, 1) := by decide +kernel
theorem dL_isDusty_21 : decode cL_isDusty 21 = .ok (.ireturn, 1) := by decide +kernel
set_option maxHeartbeats 4000000 in
set_option maxRecDepth 100000 in
theorem f_L_isDusty (l : Launch) (hst : l.stackTraces = false) (D : va_G) (h0 : Nat) (hu : Nat) (hs : Nat) (hc : Nat) (hp : Nat) (hg : Nat) (td : Int32) (sd : Int32) (a0 : Int32) (ho : Nat) (fo : Nat → Int64) (cJ : ClassId) (sz : Nat)  : vx_Met l yL_isDusty [Cond.codeWith yL_isDusty cL_isDusty 4 (some .int) [(0, 16, 19, 23)]] ({ frames := 8, cells := 1, slots := 6, locals := 170 }) (z_Pc D [.ref h0, .int a0, .ref ho] [(h0, .inr (6, [.ref hu, .ref hs, .ref hc, .ref hp, .ref hg, .int 0, .int 0, .int 0, .int td, .int sd])), (ho, .inl (cJ, 1, .inr (.inl fo)))] [(cJ, .long)] sz) (va_Qi (fun (r : Int32) (_ : Unit) => r = 1) (fun _ t => z_W D [(h0, .inr (6, [.ref hu, .ref hs, .ref hc, .ref hp, .ref hg, .int 0, .int 0, .int 0, .int td, .int sd])), (ho, .inl (cJ, 1, .inr (.inl fo)))] [(cJ, .long)] (va_A [(h0, .inr (6, [.ref hu, .ref hs, .ref hc, .ref hp, .ref hg, .int 0, .int 0, .int 0, .int td, .int sd])), (ho, .inl (cJ, 1, .inr (.inl fo)))] sz) t) (va_A [(h0, .inr (6, [.ref hu, .ref hs, .ref hc, .ref hp, .ref hg, .int 0, .int 0, .int 0, .int td, .int sd])), (ho, .inl (cJ, 1, .inr (.inl fo)))] sz)) (z_T (False) "none" D [(h0, .inr (6, [.ref hu, .ref hs, .ref hc, .ref hp, .ref hg, .int 0, .int 0, .int 0, .int td, .int sd])), (ho, .inl (cJ, 1, .inr (.inl fo)))] [(cJ, .long)] sz) 1 6 (va_A [(h0, .inr (6, [.ref hu, .ref hs, .ref hc, .ref hp, .ref hg, .int 0, .int 0, .int 0, .int td, .int sd])), (ho, .inl (cJ, 1, .inr (.inl fo)))] sz) := by
  refine vx_ofWH (cc := cL_isDusty) (maxL := 4) (ret := (some .int)) (hh := [(0, 16, 19, 23)]) (by decide +kernel) rfl ?_
  intro p e s m args below meth c s₁ B hml hv
  obtain ⟨rfl, hsz, hP, hK, hD0, hE, hX0⟩ := hv
  have hx := B.exec
  have hb := B.bytes
  have hr := B.returns
  have hts := z_E.ts (args := [.ref h0, .int a0, .ref ho].toArray) hE
  have hown : s.vm.findClass RL = some m.cls := findClass_of_methodNamed B.named
  have hlocks := B.notSynchronized
  have htb := vx_table (x := yL_isDusty) B (atoms_spec (ws := [Cond.codeWith yL_isDusty cL_isDusty 4 (some .int) [(0, 16, 19, 23)]]) B.pre _ List.mem_cons_self)
  subst hsz
  have hD := hD0.self (sz := s.heap.size)
  generalize hAe : va_A [(h0, .inr (6, [.ref hu, .ref hs, .ref hc, .ref hp, .ref hg, .int 0, .int 0, .int 0, .int td, .int sd])), (ho, .inl (cJ, 1, .inr (.inl fo)))] s.heap.size = A at hD hX0 ⊢
  have hX : z_X D A s s.heap := hX0
  have hA : ∀ q : Nat, s.heap.size ≤ q → A q := fun q h => by rw [← hAe]; exact Or.inr h
  have hS : va_S A s.heap s.heap [] := va_S.rf
  have hP : va_P D vwCl [(h0, .inr (6, [.ref hu, .ref hs, .ref hc, .ref hp, .ref hg, .int 0, .int 0, .int 0, .int td, .int sd])), (ho, .inl (cJ, 1, .inr (.inl fo)))] s.heap := hP
  have hl := lv_entry ([.ref h0, .int a0, .ref ho]) (n := 4) (Nat.le_of_ble_eq_true rfl)
  rw [lg_entry_eq]
  generalize (lg_sl ([.ref h0, .int a0, .ref ho]) ++ List.replicate (4 - (lg_sl ([.ref h0, .int a0, .ref ho])).length) Slot.unset).toArray = ls at hl ⊢
  have hl : lv_has ls 4 [(0, .ref h0), (1, .int a0), (2, .ref ho)] := hl
  skip
  refine lv_aload_n hx hb dL_isDusty_0 rfl (lv_at hl 2 rfl) ?_
  refine lv_iconst (v := 0) hx hb dL_isDusty_1 (by decide) ?_
  refine lv_aload_n hx hb dL_isDusty_2 rfl (lv_at hl 0 rfl) ?_
  refine lv_iload_n hx hb dL_isDusty_3 rfl (lv_at hl 1 rfl) ?_
  obtain ⟨hb_1, hc_1⟩ := z_call (wc := [(h0, .inr (6, [.ref hu, .ref hs, .ref hc, .ref hp, .ref hg, .int 0, .int 0, .int 0, .int td, .int sd]))]) (tc := []) ([.ref h0, .int a0]) hP hK hD hS hA hE hX [0] rfl rfl [] rfl
  have hF_1 := va_free (wc := [(h0, .inr (6, [.ref hu, .ref hs, .ref hc, .ref hp, .ref hg, .int 0, .int 0, .int 0, .int td, .int sd]))]) hD hS hA [0] rfl
  refine vx_calli (vx_runV (As := [.int a0]) (rest := [.int 0, .ref ho]) ⟨hx, hb, hml, hown, hts⟩ (f_X4_isDusty l hst D h0 hu hs hc hp hg td sd a0 _ ) (z_cV 1 hE zw_786 zw_787 zw_788 zw_91 zw_789 rfl rfl rfl (by decide +kernel) ⟨(Nat.le_of_ble_eq_true rfl), (Nat.le_of_ble_eq_true rfl)⟩) ⟨hb_1, va_recv hK hP (ci := 6) (q0 := 0) rfl rfl, hc_1⟩ rfl rfl hl.1 rfl (lv_room (Nat.le_of_ble_eq_true rfl)) dL_isDusty_4 ⟨(Nat.le_of_ble_eq_true rfl), (Nat.le_of_ble_eq_true rfl)⟩) hS (fun q _ h => hF_1 q h) hF_1 (fun q _ h => hF_1 q h) (fun E_1 ce_1 q9_1 u_1 t_1 H1 locs ht_1 hvm_1 hw_1 hB_1 hz_1 hk_1 hS1 hce_1 hcv_1 hcl_1 => ?_) (fun r_1 u_1 t_1 H1 locs ht_1 hvm_1 hw_1 hB_1 hz_1 hk_1 hS1 => ?_)
  · obtain ⟨rfl, hB_1⟩ := hB_1
    obtain ⟨hP, hK, hD⟩ := z_back (wc := [(h0, .inr (6, [.ref hu, .ref hs, .ref hc, .ref hp, .ref hg, .int 0, .int 0, .int 0, .int td, .int sd]))]) (wr := [(ho, .inl (cJ, 1, .inr (.inl fo)))]) (w1 := [(h0, .inr (6, [.ref hu, .ref hs, .ref hc, .ref hp, .ref hg, .int 0, .int 0, .int 0, .int td, .int sd]))]) (tr := [(cJ, .long)]) hP hK hD [0] [1] rfl rfl rfl (by decide) ht_1 hvm_1 hk_1 hF_1 [0] rfl hB_1
    have hS := hS1
    have hP : va_P D vwCl [(ho, .inl (cJ, 1, .inr (.inl fo))), (h0, .inr (6, [.ref hu, .ref hs, .ref hc, .ref hp, .ref hg, .int 0, .int 0, .int 0, .int td, .int sd]))] H1 := hP
    have hD : va_D A [(ho, .inl (cJ, 1, .inr (.inl fo))), (h0, .inr (6, [.ref hu, .ref hs, .ref hc, .ref hp, .ref hg, .int 0, .int 0, .int 0, .int td, .int sd]))] := hD
    have hK : va_K D vwCl [(cJ, .long)] s := hK
    clear hS1
    refine vx_catch (name := "java/lang/IndexOutOfBoundsException") hown [] ⟨0, 16, 19, 23⟩ [] (htb.trans rfl) (fun z hz => nomatch hz) (by decide) (by decide) (hts _ zw_520) (hts _ zw_531) hce_1 hcv_1 hcl_1 ?_
    refine lv_astore_n (lv' := [(3, .ref q9_1), (0, .ref h0), (1, .int a0), (2, .ref ho)]) hx hb dL_isDusty_19 rfl hl (by decide) rfl (fun ls hl => ?_)
    refine lv_iconst (v := 1) hx hb dL_isDusty_20 (by decide) ?_
    exact vx_ret (W.iret (v := 1) hx hb hr (fun t ht hW => ⟨⟨1, (), rfl, rfl, z_end hP hK hD [1, 0] rfl rfl [0] rfl ht hW.alike⟩, hS.F ht⟩) hS.2.2 dL_isDusty_21)
  · exact hw_1.elim
theorem dL_took_0 : decode cL_took 0 = .ok (.aload_n 2, 1) := by decide +kernel
theorem dL_took_1 : decode cL_took 1 = .ok (.iconst 0, 1) := by decide +kernel
theorem dL_took_2 : decode cL_took 2 = .ok (.aload_n 0, 1) := by decide +kernel
theorem dL_took_3 : decode cL_took 3 = .ok (.iload_n 1, 1) := by decide +kernel
theorem dL_took_4 : decode cL_took 4 = .ok (.invokevirtual 127, 3) := by decide +kernel
theorem zw_1004 : Cond.methodLink RL 127 yX4_took ∈ z_Ts := z_m 1004 (by decide +kernel) (by decide +kernel)
theorem zw_1005 : Cond.instanceMethod yX4_took ∈ z_Ts := z_m 1005 (by decide +kernel) (by decide +kernel)
theorem zw_1006 : Cond.selects RX4 yX4_took yX4_took ∈ z_Ts := z_m 1006 (by decide +kernel) (by decide +kernel)
theorem zw_1007 : Cond.code yX4_took cX4_took 2 (some .long) ∈ z_Ts := z_m 1007 (by decide +kernel) (by decide +kernel)
theorem dL_took_11 : decode cL_took 11 = .ok (.astore_n 3, 1) := by decide +kernel
theorem dL_took_12 : decode cL_took 12 = .ok (.iconst 1, 1) := by decide +kernel
theorem dL_took_13 : decode cL_took 13 = .ok (.ireturn, 1) := by decide +kernel
set_option maxHeartbeats 4000000 in
set_option maxRecDepth 100000 in
theorem f_L_took (l : Launch) (hst : l.stackTraces = false) (D : va_G) (h0 : Nat) (hu : Nat) (hs : Nat) (hc : Nat) (hp : Nat) (hg : Nat) (td : Int32) (sd : Int32) (a0 : Int32) (ho : Nat) (fo : Nat → Int64) (cJ : ClassId) (sz : Nat)  : vx_Met l yL_took [Cond.codeWith yL_took cL_took 4 (some .int) [(0, 8, 11, 23)]] ({ frames := 8, cells := 1, slots := 6, locals := 170 }) (z_Pc D [.ref h0, .int a0, .ref ho] [(h0, .inr (6, [.ref hu, .ref hs, .ref hc, .ref hp, .ref hg, .int 0, .int 0, .int 0, .int td, .int sd])), (ho, .inl (cJ, 1, .inr (.inl fo)))] [(cJ, .long)] sz) (va_Qi (fun (r : Int32) (_ : Unit) => r = 1) (fun _ t => z_W D [(h0, .inr (6, [.ref hu, .ref hs, .ref hc, .ref hp, .ref hg, .int 0, .int 0, .int 0, .int td, .int sd])), (ho, .inl (cJ, 1, .inr (.inl fo)))] [(cJ, .long)] (va_A [(h0, .inr (6, [.ref hu, .ref hs, .ref hc, .ref hp, .ref hg, .int 0, .int 0, .int 0, .int td, .int sd])), (ho, .inl (cJ, 1, .inr (.inl fo)))] sz) t) (va_A [(h0, .inr (6, [.ref hu, .ref hs, .ref hc, .ref hp, .ref hg, .int 0, .int 0, .int 0, .int td, .int sd])), (ho, .inl (cJ, 1, .inr (.inl fo)))] sz)) (z_T (False) "none" D [(h0, .inr (6, [.ref hu, .ref hs, .ref hc, .ref hp, .ref hg, .int 0, .int 0, .int 0, .int td, .int sd])), (ho, .inl (cJ, 1, .inr (.inl fo)))] [(cJ, .long)] sz) 1 6 (va_A [(h0, .inr (6, [.ref hu, .ref hs, .ref hc, .ref hp, .ref hg, .int 0, .int 0, .int 0, .int td, .int sd])), (ho, .inl (cJ, 1, .inr (.inl fo)))] sz) := by
  refine vx_ofWH (cc := cL_took) (maxL := 4) (ret := (some .int)) (hh := [(0, 8, 11, 23)]) (by decide +kernel) rfl ?_
  intro p e s m args below meth c s₁ B hml hv
  obtain ⟨rfl, hsz, hP, hK, hD0, hE, hX0⟩ := hv
  have hx := B.exec
  have hb := B.bytes
  have hr := B.returns
  have hts := z_E.ts (args := [.ref h0, .int a0, .ref ho].toArray) hE
  have hown : s.vm.findClass RL = some m.cls := findClass_of_methodNamed B.named
  have hlocks := B.notSynchronized
  have htb := vx_table (x := yL_took) B (atoms_spec (ws := [Cond.codeWith yL_took cL_took 4 (some .int) [(0, 8, 11, 23)]]) B.pre _ List.mem_cons_self)
  subst hsz
  have hD := hD0.self (sz := s.heap.size)
  generalize hAe : va_A [(h0, .inr (6, [.ref hu, .ref hs, .ref hc, .ref hp, .ref hg, .int 0, .int 0, .int 0, .int td, .int sd])), (ho, .inl (cJ, 1, .inr (.inl fo)))] s.heap.size = A at hD hX0 ⊢
  have hX : z_X D A s s.heap := hX0
  have hA : ∀ q : Nat, s.heap.size ≤ q → A q := fun q h => by rw [← hAe]; exact Or.inr h
  have hS : va_S A s.heap s.heap [] := va_S.rf
  have hP : va_P D vwCl [(h0, .inr (6, [.ref hu, .ref hs, .ref hc, .ref hp, .ref hg, .int 0, .int 0, .int 0, .int td, .int sd])), (ho, .inl (cJ, 1, .inr (.inl fo)))] s.heap := hP
  have hl := lv_entry ([.ref h0, .int a0, .ref ho]) (n := 4) (Nat.le_of_ble_eq_true rfl)
  rw [lg_entry_eq]
  generalize (lg_sl ([.ref h0, .int a0, .ref ho]) ++ List.replicate (4 - (lg_sl ([.ref h0, .int a0, .ref ho])).length) Slot.unset).toArray = ls at hl ⊢
  have hl : lv_has ls 4 [(0, .ref h0), (1, .int a0), (2, .ref ho)] := hl
  skip
  refine lv_aload_n hx hb dL_took_0 rfl (lv_at hl 2 rfl) ?_
  refine lv_iconst (v := 0) hx hb dL_took_1 (by decide) ?_
  refine lv_aload_n hx hb dL_took_2 rfl (lv_at hl 0 rfl) ?_
  refine lv_iload_n hx hb dL_took_3 rfl (lv_at hl 1 rfl) ?_
  obtain ⟨hb_1, hc_1⟩ := z_call (wc := [(h0, .inr (6, [.ref hu, .ref hs, .ref hc, .ref hp, .ref hg, .int 0, .int 0, .int 0, .int td, .int sd]))]) (tc := []) ([.ref h0, .int a0]) hP hK hD hS hA hE hX [0] rfl rfl [] rfl
  have hF_1 := va_free (wc := [(h0, .inr (6, [.ref hu, .ref hs, .ref hc, .ref hp, .ref hg, .int 0, .int 0, .int 0, .int td, .int sd]))]) hD hS hA [0] rfl
  refine vx_calll (vx_runV (As := [.int a0]) (rest := [.int 0, .ref ho]) ⟨hx, hb, hml, hown, hts⟩ (f_X4_took l hst D h0 hu hs hc hp hg td sd a0 _ ) (z_cV 1 hE zw_1004 zw_1005 zw_1006 zw_91 zw_1007 rfl rfl rfl (by decide +kernel) ⟨(Nat.le_of_ble_eq_true rfl), (Nat.le_of_ble_eq_true rfl)⟩) ⟨hb_1, va_recv hK hP (ci := 6) (q0 := 0) rfl rfl, hc_1⟩ rfl rfl hl.1 rfl (lv_room (Nat.le_of_ble_eq_true rfl)) dL_took_4 ⟨(Nat.le_of_ble_eq_true rfl), (Nat.le_of_ble_eq_true rfl)⟩) hS (fun q _ h => hF_1 q h) hF_1 (fun q _ h => hF_1 q h) (fun E_1 ce_1 q9_1 u_1 t_1 H1 locs ht_1 hvm_1 hw_1 hB_1 hz_1 hk_1 hS1 hce_1 hcv_1 hcl_1 => ?_) (fun r_1 u_1 t_1 H1 locs ht_1 hvm_1 hw_1 hB_1 hz_1 hk_1 hS1 => ?_)
  · obtain ⟨rfl, hB_1⟩ := hB_1
    obtain ⟨hP, hK, hD⟩ := z_back (wc := [(h0, .inr (6, [.ref hu, .ref hs, .ref hc, .ref hp, .ref hg, .int 0, .int 0, .int 0, .int td, .int sd]))]) (wr := [(ho, .inl (cJ, 1, .inr (.inl fo)))]) (w1 := [(h0, .inr (6, [.ref hu, .ref hs, .ref hc, .ref hp, .ref hg, .int 0, .int 0, .int 0, .int td, .int sd]))]) (tr := [(cJ, .long)]) hP hK hD [0] [1] rfl rfl rfl (by decide) ht_1 hvm_1 hk_1 hF_1 [0] rfl hB_1
    have hS := hS1
    have hP : va_P D vwCl [(ho, .inl (cJ, 1, .inr (.inl fo))), (h0, .inr (6, [.ref hu, .ref hs, .ref hc, .ref hp, .ref hg, .int 0, .int 0, .int 0, .int td, .int sd]))] H1 := hP
    have hD : va_D A [(ho, .inl (cJ, 1, .inr (.inl fo))), (h0, .inr (6, [.ref hu, .ref hs, .ref hc, .ref hp, .ref hg, .int 0, .int 0, .int 0, .int td, .int sd]))] := hD
    have hK : va_K D vwCl [(cJ, .long)] s := hK
    clear hS1
    refine vx_catch (name := "java/lang/IndexOutOfBoundsException") hown [] ⟨0, 8, 11, 23⟩ [] (htb.trans rfl) (fun z hz => nomatch hz) (by decide) (by decide) (hts _ zw_520) (hts _ zw_531) hce_1 hcv_1 hcl_1 ?_
    refine lv_astore_n (lv' := [(3, .ref q9_1), (0, .ref h0), (1, .int a0), (2, .ref ho)]) hx hb dL_took_11 rfl hl (by decide) rfl (fun ls hl => ?_)
    refine lv_iconst (v := 1) hx hb dL_took_12 (by decide) ?_
    exact vx_ret (W.iret (v := 1) hx hb hr (fun t ht hW => ⟨⟨1, (), rfl, rfl, z_end hP hK hD [1, 0] rfl rfl [0] rfl ht hW.alike⟩, hS.F ht⟩) hS.2.2 dL_took_13)
  · exact hw_1.elim
theorem dL_lost_0 : decode cL_lost 0 = .ok (.aload_n 3, 1) := by decide +kernel
theorem dL_lost_1 : decode cL_lost 1 = .ok (.iconst 0, 1) := by decide +kernel
theorem dL_lost_2 : decode cL_lost 2 = .ok (.aload_n 0, 1) := by decide +kernel
theorem dL_lost_3 : decode cL_lost 3 = .ok (.iload_n 1, 1) := by decide +kernel
theorem dL_lost_4 : decode cL_lost 4 = .ok (.iload_n 2, 1) := by decide +kernel
theorem dL_lost_5 : decode cL_lost 5 = .ok (.invokevirtual 131, 3) := by decide +kernel
theorem zw_1011 : Cond.methodLink RL 131 yX4_lost ∈ z_Ts := z_m 1011 (by decide +kernel) (by decide +kernel)
theorem zw_1012 : Cond.instanceMethod yX4_lost ∈ z_Ts := z_m 1012 (by decide +kernel) (by decide +kernel)
theorem zw_1013 : Cond.selects RX4 yX4_lost yX4_lost ∈ z_Ts := z_m 1013 (by decide +kernel) (by decide +kernel)
theorem zw_1014 : Cond.code yX4_lost cX4_lost 4 (some .long) ∈ z_Ts := z_m 1014 (by decide +kernel) (by decide +kernel)
theorem dL_lost_12 : decode cL_lost 12 = .ok (.astore 4, 2) := by decide +kernel
theorem dL_lost_14 : decode cL_lost 14 = .ok (.iconst 1, 1) := by decide +kernel
theorem dL_lost_15 : decode cL_lost 15 = .ok (.ireturn, 1) := by decide +kernel
set_option maxHeartbeats 4000000 in
set_option maxRecDepth 100000 in
theorem f_L_lost (l : Launch) (hst : l.stackTraces = false) (D : va_G) (h0 : Nat) (hu : Nat) (hs : Nat) (hc : Nat) (hp : Nat) (hg : Nat) (td : Int32) (sd : Int32) (a0 : Int32) (a1 : Int32) (ho : Nat) (fo : Nat → Int64) (cJ : ClassId) (sz : Nat)  : vx_Met l yL_lost [Cond.codeWith yL_lost cL_lost 5 (some .int) [(0, 9, 12, 23), (0, 9, 16, 13)]] ({ frames := 8, cells := 1, slots := 6, locals := 170 }) (z_Pc D [.ref h0, .int a0, .int a1, .ref ho] [(h0, .inr (6, [.ref hu, .ref hs, .ref hc, .ref hp, .ref hg, .int 0, .int 0, .int 0, .int td, .int sd])), (ho, .inl (cJ, 1, .inr (.inl fo)))] [(cJ, .long)] sz) (va_Qi (fun (r : Int32) (_ : Unit) => r = 1) (fun _ t => z_W D [(h0, .inr (6, [.ref hu, .ref hs, .ref hc, .ref hp, .ref hg, .int 0, .int 0, .int 0, .int td, .int sd])), (ho, .inl (cJ, 1, .inr (.inl fo)))] [(cJ, .long)] (va_A [(h0, .inr (6, [.ref hu, .ref hs, .ref hc, .ref hp, .ref hg, .int 0, .int 0, .int 0, .int td, .int sd])), (ho, .inl (cJ, 1, .inr (.inl fo)))] sz) t) (va_A [(h0, .inr (6, [.ref hu, .ref hs, .ref hc, .ref hp, .ref hg, .int 0, .int 0, .int 0, .int td, .int sd])), (ho, .inl (cJ, 1, .inr (.inl fo)))] sz)) (z_T (False) "none" D [(h0, .inr (6, [.ref hu, .ref hs, .ref hc, .ref hp, .ref hg, .int 0, .int 0, .int 0, .int td, .int sd])), (ho, .inl (cJ, 1, .inr (.inl fo)))] [(cJ, .long)] sz) 1 6 (va_A [(h0, .inr (6, [.ref hu, .ref hs, .ref hc, .ref hp, .ref hg, .int 0, .int 0, .int 0, .int td, .int sd])), (ho, .inl (cJ, 1, .inr (.inl fo)))] sz) := by
  refine vx_ofWH (cc := cL_lost) (maxL := 5) (ret := (some .int)) (hh := [(0, 9, 12, 23), (0, 9, 16, 13)]) (by decide +kernel) rfl ?_
  intro p e s m args below meth c s₁ B hml hv
  obtain ⟨rfl, hsz, hP, hK, hD0, hE, hX0⟩ := hv
  have hx := B.exec
  have hb := B.bytes
  have hr := B.returns
  have hts := z_E.ts (args := [.ref h0, .int a0, .int a1, .ref ho].toArray) hE
  have hown : s.vm.findClass RL = some m.cls := findClass_of_methodNamed B.named
  have hlocks := B.notSynchronized
  have htb := vx_table (x := yL_lost) B (atoms_spec (ws := [Cond.codeWith yL_lost cL_lost 5 (some .int) [(0, 9, 12, 23), (0, 9, 16, 13)]]) B.pre _ List.mem_cons_self)
  subst hsz
  have hD := hD0.self (sz := s.heap.size)
  generalize hAe : va_A [(h0, .inr (6, [.ref hu, .ref hs, .ref hc, .ref hp, .ref hg, .int 0, .int 0, .int 0, .int td, .int sd])), (ho, .inl (cJ, 1, .inr (.inl fo)))] s.heap.size = A at hD hX0 ⊢
  have hX : z_X D A s s.heap := hX0
  have hA : ∀ q : Nat, s.heap.size ≤ q → A q := fun q h => by rw [← hAe]; exact Or.inr h
  have hS : va_S A s.heap s.heap [] := va_S.rf
  have hP : va_P D vwCl [(h0, .inr (6, [.ref hu, .ref hs, .ref hc, .ref hp, .ref hg, .int 0, .int 0, .int 0, .int td, .int sd])), (ho, .inl (cJ, 1, .inr (.inl fo)))] s.heap := hP
  have hl := lv_entry ([.ref h0, .int a0, .int a1, .ref ho]) (n := 5) (Nat.le_of_ble_eq_true rfl)
  rw [lg_entry_eq]
  generalize (lg_sl ([.ref h0, .int a0, .int a1, .ref ho]) ++ List.replicate (5 - (lg_sl ([.ref h0, .int a0, .int a1, .ref ho])).length) Slot.unset).toArray = ls at hl ⊢
  have hl : lv_has ls 5 [(0, .ref h0), (1, .int a0), (2, .int a1), (3, .ref ho)] := hl
  skip
  refine lv_aload_n hx hb dL_lost_0 rfl (lv_at hl 3 rfl) ?_
  refine lv_iconst (v := 0) hx hb dL_lost_1 (by decide) ?_
  refine lv_aload_n hx hb dL_lost_2 rfl (lv_at hl 0 rfl) ?_
  refine lv_iload_n hx hb dL_lost_3 rfl (lv_at hl 1 rfl) ?_
  refine lv_iload_n hx hb dL_lost_4 rfl (lv_at hl 2 rfl) ?_
  obtain ⟨hb_1, hc_1⟩ := z_call (wc := [(h0, .inr (6, [.ref hu, .ref hs, .ref hc, .ref hp, .ref hg, .int 0, .int 0, .int 0, .int td, .int sd]))]) (tc := []) ([.ref h0, .int a0, .int a1]) hP hK hD hS hA hE hX [0] rfl rfl [] rfl
  have hF_1 := va_free (wc := [(h0, .inr (6, [.ref hu, .ref hs, .ref hc, .ref hp, .ref hg, .int 0, .int 0, .int 0, .int td, .int sd]))]) hD hS hA [0] rfl
  refine vx_calll (vx_runV (As := [.int a0, .int a1]) (rest := [.int 0, .ref ho]) ⟨hx, hb, hml, hown, hts⟩ (f_X4_lost l hst D h0 hu hs hc hp hg td sd a0 a1 _ ) (z_cV 2 hE zw_1011 zw_1012 zw_1013 zw_91 zw_1014 rfl rfl rfl (by decide +kernel) ⟨(Nat.le_of_ble_eq_true rfl), (Nat.le_of_ble_eq_true rfl)⟩) ⟨hb_1, va_recv hK hP (ci := 6) (q0 := 0) rfl rfl, hc_1⟩ rfl rfl hl.1 rfl (lv_room (Nat.le_of_ble_eq_true rfl)) dL_lost_5 ⟨(Nat.le_of_ble_eq_true rfl), (Nat.le_of_ble_eq_true rfl)⟩) hS (fun q _ h => hF_1 q h) hF_1 (fun q _ h => hF_1 q h) (fun E_1 ce_1 q9_1 u_1 t_1 H1 locs ht_1 hvm_1 hw_1 hB_1 hz_1 hk_1 hS1 hce_1 hcv_1 hcl_1 => ?_) (fun r_1 u_1 t_1 H1 locs ht_1 hvm_1 hw_1 hB_1 hz_1 hk_1 hS1 => ?_)
  · obtain ⟨rfl, hB_1⟩ := hB_1
    obtain ⟨hP, hK, hD⟩ := z_back (wc := [(h0, .inr (6, [.ref hu, .ref hs, .ref hc, .ref hp, .ref hg, .int 0, .int 0, .int 0, .int td, .int sd]))]) (wr := [(ho, .inl (cJ, 1, .inr (.inl fo)))]) (w1 := [(h0, .inr (6, [.ref hu, .ref hs, .ref hc, .ref hp, .ref hg, .int 0, .int 0, .int 0, .int td, .int sd]))]) (tr := [(cJ, .long)]) hP hK hD [0] [1] rfl rfl rfl (by decide) ht_1 hvm_1 hk_1 hF_1 [0] rfl hB_1
    have hS := hS1
    have hP : va_P D vwCl [(ho, .inl (cJ, 1, .inr (.inl fo))), (h0, .inr (6, [.ref hu, .ref hs, .ref hc, .ref hp, .ref hg, .int 0, .int 0, .int 0, .int td, .int sd]))] H1 := hP
    have hD : va_D A [(ho, .inl (cJ, 1, .inr (.inl fo))), (h0, .inr (6, [.ref hu, .ref hs, .ref hc, .ref hp, .ref hg, .int 0, .int 0, .int 0, .int td, .int sd]))] := hD
    have hK : va_K D vwCl [(cJ, .long)] s := hK
    clear hS1
    refine vx_catch (name := "java/lang/IndexOutOfBoundsException") hown [] ⟨0, 9, 12, 23⟩ [⟨0, 9, 16, 13⟩] (htb.trans rfl) (fun z hz => nomatch hz) (by decide) (by decide) (hts _ zw_520) (hts _ zw_531) hce_1 hcv_1 hcl_1 ?_
    refine lv_astore (lv' := [(4, .ref q9_1), (0, .ref h0), (1, .int a0), (2, .int a1), (3, .ref ho)]) hx hb dL_lost_12 hl (by decide) rfl (fun ls hl => ?_)
    refine lv_iconst (v := 1) hx hb dL_lost_14 (by decide) ?_
    exact vx_ret (W.iret (v := 1) hx hb hr (fun t ht hW => ⟨⟨1, (), rfl, rfl, z_end hP hK hD [1, 0] rfl rfl [0] rfl ht hW.alike⟩, hS.F ht⟩) hS.2.2 dL_lost_15)
  · exact hw_1.elim
theorem dL_rent_0 : decode cL_rent 0 = .ok (.aload_n 2, 1) := by decide +kernel
theorem dL_rent_1 : decode cL_rent 1 = .ok (.iconst 0, 1) := by decide +kernel
theorem dL_rent_2 : decode cL_rent 2 = .ok (.aload_n 0, 1) := by decide +kernel
theorem dL_rent_3 : decode cL_rent 3 = .ok (.iload_n 1, 1) := by decide +kernel
theorem dL_rent_4 : decode cL_rent 4 = .ok (.invokevirtual 135, 3) := by decide +kernel
theorem zw_1021 : Cond.methodLink RL 135 yX4_rent ∈ z_Ts := z_m 1021 (by decide +kernel) (by decide +kernel)
theorem zw_1022 : Cond.instanceMethod yX4_rent ∈ z_Ts := z_m 1022 (by decide +kernel) (by decide +kernel)
theorem zw_1023 : Cond.selects RX4 yX4_rent yX4_rent ∈ z_Ts := z_m 1023 (by decide +kernel) (by decide +kernel)
theorem zw_1024 : Cond.code yX4_rent cX4_rent 2 (some .long) ∈ z_Ts := z_m 1024 (by decide +kernel) (by decide +kernel)
theorem dL_rent_11 : decode cL_rent 11 = .ok (.astore_n 3, 1) := by decide +kernel
theorem dL_rent_12 : decode cL_rent 12 = .ok (.iconst 1, 1) := by decide +kernel
theorem dL_rent_13 : decode cL_rent 13 = .ok (.ireturn, 1) := by decide +kernel
set_option maxHeartbeats 4000000 in
set_option maxRecDepth 100000 in
theorem f_L_rent (l : Launch) (hst : l.stackTraces = false) (D : va_G) (h0 : Nat) (hu : Nat) (hs : Nat) (hc : Nat) (hp : Nat) (hg : Nat) (td : Int32) (sd : Int32) (a0 : Int32) (ho : Nat) (fo : Nat → Int64) (cJ : ClassId) (sz : Nat)  : vx_Met l yL_rent [Cond.codeWith yL_rent cL_rent 4 (some .int) [(0, 8, 11, 23)]] ({ frames := 8, cells := 1, slots := 6, locals := 170 }) (z_Pc D [.ref h0, .int a0, .ref ho] [(h0, .inr (6, [.ref hu, .ref hs, .ref hc, .ref hp, .ref hg, .int 0, .int 0, .int 0, .int td, .int sd])), (ho, .inl (cJ, 1, .inr (.inl fo)))] [(cJ, .long)] sz) (va_Qi (fun (r : Int32) (_ : Unit) => r = 1) (fun _ t => z_W D [(h0, .inr (6, [.ref hu, .ref hs, .ref hc, .ref hp, .ref hg, .int 0, .int 0, .int 0, .int td, .int sd])), (ho, .inl (cJ, 1, .inr (.inl fo)))] [(cJ, .long)] (va_A [(h0, .inr (6, [.ref hu, .ref hs, .ref hc, .ref hp, .ref hg, .int 0, .int 0, .int 0, .int td, .int sd])), (ho, .inl (cJ, 1, .inr (.inl fo)))] sz) t) (va_A [(h0, .inr (6, [.ref hu, .ref hs, .ref hc, .ref hp, .ref hg, .int 0, .int 0, .int 0, .int td, .int sd])), (ho, .inl (cJ, 1, .inr (.inl fo)))] sz)) (z_T (False) "none" D [(h0, .inr (6, [.ref hu, .ref hs, .ref hc, .ref hp, .ref hg, .int 0, .int 0, .int 0, .int td, .int sd])), (ho, .inl (cJ, 1, .inr (.inl fo)))] [(cJ, .long)] sz) 1 6 (va_A [(h0, .inr (6, [.ref hu, .ref hs, .ref hc, .ref hp, .ref hg, .int 0, .int 0, .int 0, .int td, .int sd])), (ho, .inl (cJ, 1, .inr (.inl fo)))] sz) := by
  refine vx_ofWH (cc := cL_rent) (maxL := 4) (ret := (some .int)) (hh := [(0, 8, 11, 23)]) (by decide +kernel) rfl ?_
  intro p e s m args below meth c s₁ B hml hv
  obtain ⟨rfl, hsz, hP, hK, hD0, hE, hX0⟩ := hv
  have hx := B.exec
  have hb := B.bytes
  have hr := B.returns
  have hts := z_E.ts (args := [.ref h0, .int a0, .ref ho].toArray) hE
  have hown : s.vm.findClass RL = some m.cls := findClass_of_methodNamed B.named
  have hlocks := B.notSynchronized
  have htb := vx_table (x := yL_rent) B (atoms_spec (ws := [Cond.codeWith yL_rent cL_rent 4 (some .int) [(0, 8, 11, 23)]]) B.pre _ List.mem_cons_self)
  subst hsz
  have hD := hD0.self (sz := s.heap.size)
  generalize hAe : va_A [(h0, .inr (6, [.ref hu, .ref hs, .ref hc, .ref hp, .ref hg, .int 0, .int 0, .int 0, .int td, .int sd])), (ho, .inl (cJ, 1, .inr (.inl fo)))] s.heap.size = A at hD hX0 ⊢
  have hX : z_X D A s s.heap := hX0
  have hA : ∀ q : Nat, s.heap.size ≤ q → A q := fun q h => by rw [← hAe]; exact Or.inr h
  have hS : va_S A s.heap s.heap [] := va_S.rf
  have hP : va_P D vwCl [(h0, .inr (6, [.ref hu, .ref hs, .ref hc, .ref hp, .ref hg, .int 0, .int 0, .int 0, .int td, .int sd])), (ho, .inl (cJ, 1, .inr (.inl fo)))] s.heap := hP
  have hl := lv_entry ([.ref h0, .int a0, .ref ho]) (n := 4) (Nat.le_of_ble_eq_true rfl)
  rw [lg_entry_eq]
  generalize (lg_sl ([.ref h0, .int a0, .ref ho]) ++ List.replicate (4 - (lg_sl ([.ref h0, .int a0, .ref ho])).length) Slot.unset).toArray = ls at hl ⊢
  have hl : lv_has ls 4 [(0, .ref h0), (1, .int a0), (2, .ref ho)] := hl
  skip
  refine lv_aload_n hx hb dL_rent_0 rfl (lv_at hl 2 rfl) ?_
  refine lv_iconst (v := 0) hx hb dL_rent_1 (by decide) ?_
  refine lv_aload_n hx hb dL_rent_2 rfl (lv_at hl 0 rfl) ?_
  refine lv_iload_n hx hb dL_rent_3 rfl (lv_at hl 1 rfl) ?_
  obtain ⟨hb_1, hc_1⟩ := z_call (wc := [(h0, .inr (6, [.ref hu, .ref hs, .ref hc, .ref hp, .ref hg, .int 0, .int 0, .int 0, .int td, .int sd]))]) (tc := []) ([.ref h0, .int a0]) hP hK hD hS hA hE hX [0] rfl rfl [] rfl
  have hF_1 := va_free (wc := [(h0, .inr (6, [.ref hu, .ref hs, .ref hc, .ref hp, .ref hg, .int 0, .int 0, .int 0, .int td, .int sd]))]) hD hS hA [0] rfl
  refine vx_calll (vx_runV (As := [.int a0]) (rest := [.int 0, .ref ho]) ⟨hx, hb, hml, hown, hts⟩ (f_X4_rent l hst D h0 hu hs hc hp hg td sd a0 _ ) (z_cV 1 hE zw_1021 zw_1022 zw_1023 zw_91 zw_1024 rfl rfl rfl (by decide +kernel) ⟨(Nat.le_of_ble_eq_true rfl), (Nat.le_of_ble_eq_true rfl)⟩) ⟨hb_1, va_recv hK hP (ci := 6) (q0 := 0) rfl rfl, hc_1⟩ rfl rfl hl.1 rfl (lv_room (Nat.le_of_ble_eq_true rfl)) dL_rent_4 ⟨(Nat.le_of_ble_eq_true rfl), (Nat.le_of_ble_eq_true rfl)⟩) hS (fun q _ h => hF_1 q h) hF_1 (fun q _ h => hF_1 q h) (fun E_1 ce_1 q9_1 u_1 t_1 H1 locs ht_1 hvm_1 hw_1 hB_1 hz_1 hk_1 hS1 hce_1 hcv_1 hcl_1 => ?_) (fun r_1 u_1 t_1 H1 locs ht_1 hvm_1 hw_1 hB_1 hz_1 hk_1 hS1 => ?_)
  · obtain ⟨rfl, hB_1⟩ := hB_1
    obtain ⟨hP, hK, hD⟩ := z_back (wc := [(h0, .inr (6, [.ref hu, .ref hs, .ref hc, .ref hp, .ref hg, .int 0, .int 0, .int 0, .int td, .int sd]))]) (wr := [(ho, .inl (cJ, 1, .inr (.inl fo)))]) (w1 := [(h0, .inr (6, [.ref hu, .ref hs, .ref hc, .ref hp, .ref hg, .int 0, .int 0, .int 0, .int td, .int sd]))]) (tr := [(cJ, .long)]) hP hK hD [0] [1] rfl rfl rfl (by decide) ht_1 hvm_1 hk_1 hF_1 [0] rfl hB_1
    have hS := hS1
    have hP : va_P D vwCl [(ho, .inl (cJ, 1, .inr (.inl fo))), (h0, .inr (6, [.ref hu, .ref hs, .ref hc, .ref hp, .ref hg, .int 0, .int 0, .int 0, .int td, .int sd]))] H1 := hP
    have hD : va_D A [(ho, .inl (cJ, 1, .inr (.inl fo))), (h0, .inr (6, [.ref hu, .ref hs, .ref hc, .ref hp, .ref hg, .int 0, .int 0, .int 0, .int td, .int sd]))] := hD
    have hK : va_K D vwCl [(cJ, .long)] s := hK
    clear hS1
    refine vx_catch (name := "java/lang/IndexOutOfBoundsException") hown [] ⟨0, 8, 11, 23⟩ [] (htb.trans rfl) (fun z hz => nomatch hz) (by decide) (by decide) (hts _ zw_520) (hts _ zw_531) hce_1 hcv_1 hcl_1 ?_
    refine lv_astore_n (lv' := [(3, .ref q9_1), (0, .ref h0), (1, .int a0), (2, .ref ho)]) hx hb dL_rent_11 rfl hl (by decide) rfl (fun ls hl => ?_)
    refine lv_iconst (v := 1) hx hb dL_rent_12 (by decide) ?_
    exact vx_ret (W.iret (v := 1) hx hb hr (fun t ht hW => ⟨⟨1, (), rfl, rfl, z_end hP hK hD [1, 0] rfl rfl [0] rfl ht hW.alike⟩, hS.F ht⟩) hS.2.2 dL_rent_13)
  · exact hw_1.elim
theorem dL_send_0 : decode cL_send 0 = .ok (.aload_n 3, 1) := by decide +kernel
theorem dL_send_1 : decode cL_send 1 = .ok (.iconst 0, 1) := by decide +kernel
theorem dL_send_2 : decode cL_send 2 = .ok (.aload_n 0, 1) := by decide +kernel
theorem dL_send_3 : decode cL_send 3 = .ok (.iload_n 1, 1) := by decide +kernel
theorem dL_send_4 : decode cL_send 4 = .ok (.iload_n 2, 1) := by decide +kernel
theorem dL_send_5 : decode cL_send 5 = .ok (.invokevirtual 107, 3) := by decide +kernel
theorem zw_889 : Cond.methodLink RL 107 yX4_send ∈ z_Ts := z_m 889 (by decide +kernel) (by decide +kernel)
theorem zw_890 : Cond.instanceMethod yX4_send ∈ z_Ts := z_m 890 (by decide +kernel) (by decide +kernel)
theorem zw_891 : Cond.selects RX4 yX4_send yX4_send ∈ z_Ts := z_m 891 (by decide +kernel) (by decide +kernel)
theorem zw_892 : Cond.code yX4_send cX4_send 4 (some .int) ∈ z_Ts := z_m 892 (by decide +kernel) (by decide +kernel)
theorem dL_send_13 : decode cL_send 13 = .ok (.astore 4, 2) := by decide +kernel
theorem dL_send_15 : decode cL_send 15 = .ok (.iconst 1, 1) := by decide +kernel
theorem dL_send_16 : decode cL_send 16 = .ok (.ireturn, 1) := by decide +kernel
set_option maxHeartbeats 4000000 in
set_option maxRecDepth 100000 in
theorem f_L_send (l : Launch) (hst : l.stackTraces = false) (D : va_G) (h0 : Nat) (hu : Nat) (hs : Nat) (hc : Nat) (hp : Nat) (hg : Nat) (td : Int32) (sd : Int32) (a0 : Int32) (a1 : Int32) (ho : Nat) (fo : Nat → Int64) (cJ : ClassId) (sz : Nat)  : vx_Met l yL_send [Cond.codeWith yL_send cL_send 5 (some .int) [(0, 10, 13, 23)]] ({ frames := 8, cells := 1, slots := 6, locals := 170 }) (z_Pc D [.ref h0, .int a0, .int a1, .ref ho] [(h0, .inr (6, [.ref hu, .ref hs, .ref hc, .ref hp, .ref hg, .int 0, .int 0, .int 0, .int td, .int sd])), (ho, .inl (cJ, 1, .inr (.inl fo)))] [(cJ, .long)] sz) (va_Qi (fun (r : Int32) (_ : Unit) => r = 1) (fun _ t => z_W D [(h0, .inr (6, [.ref hu, .ref hs, .ref hc, .ref hp, .ref hg, .int 0, .int 0, .int 0, .int td, .int sd])), (ho, .inl (cJ, 1, .inr (.inl fo)))] [(cJ, .long)] (va_A [(h0, .inr (6, [.ref hu, .ref hs, .ref hc, .ref hp, .ref hg, .int 0, .int 0, .int 0, .int td, .int sd])), (ho, .inl (cJ, 1, .inr (.inl fo)))] sz) t) (va_A [(h0, .inr (6, [.ref hu, .ref hs, .ref hc, .ref hp, .ref hg, .int 0, .int 0, .int 0, .int td, .int sd])), (ho, .inl (cJ, 1, .inr (.inl fo)))] sz)) (z_T (False) "none" D [(h0, .inr (6, [.ref hu, .ref hs, .ref hc, .ref hp, .ref hg, .int 0, .int 0, .int 0, .int td, .int sd])), (ho, .inl (cJ, 1, .inr (.inl fo)))] [(cJ, .long)] sz) 1 6 (va_A [(h0, .inr (6, [.ref hu, .ref hs, .ref hc, .ref hp, .ref hg, .int 0, .int 0, .int 0, .int td, .int sd])), (ho, .inl (cJ, 1, .inr (.inl fo)))] sz) := by
  refine vx_ofWH (cc := cL_send) (maxL := 5) (ret := (some .int)) (hh := [(0, 10, 13, 23)]) (by decide +kernel) rfl ?_
  intro p e s m args below meth c s₁ B hml hv
  obtain ⟨rfl, hsz, hP, hK, hD0, hE, hX0⟩ := hv
  have hx := B.exec
  have hb := B.bytes
  have hr := B.returns
  have hts := z_E.ts (args := [.ref h0, .int a0, .int a1, .ref ho].toArray) hE
  have hown : s.vm.findClass RL = some m.cls := findClass_of_methodNamed B.named
  have hlocks := B.notSynchronized
  have htb := vx_table (x := yL_send) B (atoms_spec (ws := [Cond.codeWith yL_send cL_send 5 (some .int) [(0, 10, 13, 23)]]) B.pre _ List.mem_cons_self)
  subst hsz
  have hD := hD0.self (sz := s.heap.size)
  generalize hAe : va_A [(h0, .inr (6, [.ref hu, .ref hs, .ref hc, .ref hp, .ref hg, .int 0, .int 0, .int 0, .int td, .int sd])), (ho, .inl (cJ, 1, .inr (.inl fo)))] s.heap.size = A at hD hX0 ⊢
  have hX : z_X D A s s.heap := hX0
  have hA : ∀ q : Nat, s.heap.size ≤ q → A q := fun q h => by rw [← hAe]; exact Or.inr h
  have hS : va_S A s.heap s.heap [] := va_S.rf
  have hP : va_P D vwCl [(h0, .inr (6, [.ref hu, .ref hs, .ref hc, .ref hp, .ref hg, .int 0, .int 0, .int 0, .int td, .int sd])), (ho, .inl (cJ, 1, .inr (.inl fo)))] s.heap := hP
  have hl := lv_entry ([.ref h0, .int a0, .int a1, .ref ho]) (n := 5) (Nat.le_of_ble_eq_true rfl)
  rw [lg_entry_eq]
  generalize (lg_sl ([.ref h0, .int a0, .int a1, .ref ho]) ++ List.replicate (5 - (lg_sl ([.ref h0, .int a0, .int a1, .ref ho])).length) Slot.unset).toArray = ls at hl ⊢
  have hl : lv_has ls 5 [(0, .ref h0), (1, .int a0), (2, .int a1), (3, .ref ho)] := hl
  skip
  refine lv_aload_n hx hb dL_send_0 rfl (lv_at hl 3 rfl) ?_
  refine lv_iconst (v := 0) hx hb dL_send_1 (by decide) ?_
  refine lv_aload_n hx hb dL_send_2 rfl (lv_at hl 0 rfl) ?_
  refine lv_iload_n hx hb dL_send_3 rfl (lv_at hl 1 rfl) ?_
  refine lv_iload_n hx hb dL_send_4 rfl (lv_at hl 2 rfl) ?_
  obtain ⟨hb_1, hc_1⟩ := z_call (wc := [(h0, .inr (6, [.ref hu, .ref hs, .ref hc, .ref hp, .ref hg, .int 0, .int 0, .int 0, .int td, .int sd]))]) (tc := []) ([.ref h0, .int a0, .int a1]) hP hK hD hS hA hE hX [0] rfl rfl [] rfl
  have hF_1 := va_free (wc := [(h0, .inr (6, [.ref hu, .ref hs, .ref hc, .ref hp, .ref hg, .int 0, .int 0, .int 0, .int td, .int sd]))]) hD hS hA [0] rfl
  refine vx_calli (vx_runV (As := [.int a0, .int a1]) (rest := [.int 0, .ref ho]) ⟨hx, hb, hml, hown, hts⟩ (f_X4_send l hst D h0 hu hs hc hp hg td sd a0 a1 _ ) (z_cV 2 hE zw_889 zw_890 zw_891 zw_91 zw_892 rfl rfl rfl (by decide +kernel) ⟨(Nat.le_of_ble_eq_true rfl), (Nat.le_of_ble_eq_true rfl)⟩) ⟨hb_1, va_recv hK hP (ci := 6) (q0 := 0) rfl rfl, hc_1⟩ rfl rfl hl.1 rfl (lv_room (Nat.le_of_ble_eq_true rfl)) dL_send_5 ⟨(Nat.le_of_ble_eq_true rfl), (Nat.le_of_ble_eq_true rfl)⟩) hS (fun q _ h => hF_1 q h) hF_1 (fun q _ h => hF_1 q h) (fun E_1 ce_1 q9_1 u_1 t_1 H1 locs ht_1 hvm_1 hw_1 hB_1 hz_1 hk_1 hS1 hce_1 hcv_1 hcl_1 => ?_) (fun r_1 u_1 t_1 H1 locs ht_1 hvm_1 hw_1 hB_1 hz_1 hk_1 hS1 => ?_)
  · obtain ⟨rfl, hB_1⟩ := hB_1
    obtain ⟨hP, hK, hD⟩ := z_back (wc := [(h0, .inr (6, [.ref hu, .ref hs, .ref hc, .ref hp, .ref hg, .int 0, .int 0, .int 0, .int td, .int sd]))]) (wr := [(ho, .inl (cJ, 1, .inr (.inl fo)))]) (w1 := [(h0, .inr (6, [.ref hu, .ref hs, .ref hc, .ref hp, .ref hg, .int 0, .int 0, .int 0, .int td, .int sd]))]) (tr := [(cJ, .long)]) hP hK hD [0] [1] rfl rfl rfl (by decide) ht_1 hvm_1 hk_1 hF_1 [0] rfl hB_1
    have hS := hS1
    have hP : va_P D vwCl [(ho, .inl (cJ, 1, .inr (.inl fo))), (h0, .inr (6, [.ref hu, .ref hs, .ref hc, .ref hp, .ref hg, .int 0, .int 0, .int 0, .int td, .int sd]))] H1 := hP
    have hD : va_D A [(ho, .inl (cJ, 1, .inr (.inl fo))), (h0, .inr (6, [.ref hu, .ref hs, .ref hc, .ref hp, .ref hg, .int 0, .int 0, .int 0, .int td, .int sd]))] := hD
    have hK : va_K D vwCl [(cJ, .long)] s := hK
    clear hS1
    refine vx_catch (name := "java/lang/IndexOutOfBoundsException") hown [] ⟨0, 10, 13, 23⟩ [] (htb.trans rfl) (fun z hz => nomatch hz) (by decide) (by decide) (hts _ zw_520) (hts _ zw_531) hce_1 hcv_1 hcl_1 ?_
    refine lv_astore (lv' := [(4, .ref q9_1), (0, .ref h0), (1, .int a0), (2, .int a1), (3, .ref ho)]) hx hb dL_send_13 hl (by decide) rfl (fun ls hl => ?_)
    refine lv_iconst (v := 1) hx hb dL_send_15 (by decide) ?_
    exact vx_ret (W.iret (v := 1) hx hb hr (fun t ht hW => ⟨⟨1, (), rfl, rfl, z_end hP hK hD [1, 0] rfl rfl [0] rfl ht hW.alike⟩, hS.F ht⟩) hS.2.2 dL_send_16)
  · exact hw_1.elim
theorem dL_canWork_0 : decode cL_canWork 0 = .ok (.aload_n 2, 1) := by decide +kernel
theorem dL_canWork_1 : decode cL_canWork 1 = .ok (.iconst 0, 1) := by decide +kernel
theorem dL_canWork_2 : decode cL_canWork 2 = .ok (.aload_n 0, 1) := by decide +kernel
theorem dL_canWork_3 : decode cL_canWork 3 = .ok (.iload_n 1, 1) := by decide +kernel
theorem dL_canWork_4 : decode cL_canWork 4 = .ok (.invokevirtual 110, 3) := by decide +kernel
theorem zw_901 : Cond.methodLink RL 110 yX4_canWork ∈ z_Ts := z_m 901 (by decide +kernel) (by decide +kernel)
theorem zw_902 : Cond.instanceMethod yX4_canWork ∈ z_Ts := z_m 902 (by decide +kernel) (by decide +kernel)
theorem zw_903 : Cond.selects RX4 yX4_canWork yX4_canWork ∈ z_Ts := z_m 903 (by decide +kernel) (by decide +kernel)
theorem zw_904 : Cond.code yX4_canWork cX4_canWork 2 (some .boolean) ∈ z_Ts := z_m 904 (by decide +kernel) (by decide +kernel)
theorem dL_canWork_19 : decode cL_canWork 19 = .ok (.astore_n 3, 1) := by decide +kernel
theorem dL_canWork_20 : decode cL_canWork 20 = .ok (.iconst 1, 1) := by decide +kernel
theorem dL_canWork_21 : decode cL_canWork 21 = .ok (.ireturn, 1) := by decide +kernel
set_option maxHeartbeats 4000000 in
set_option maxRecDepth 100000 in
theorem f_L_canWork (l : Launch) (hst : l.stackTraces = false) (D : va_G) (h0 : Nat) (hu : Nat) (hs : Nat) (hc : Nat) (hp : Nat) (hg : Nat) (td : Int32) (sd : Int32) (a0 : Int32) (ho : Nat) (fo : Nat → Int64) (cJ : ClassId) (sz : Nat)  : vx_Met l yL_canWork [Cond.codeWith yL_canWork cL_canWork 4 (some .int) [(0, 16, 19, 23)]] ({ frames := 8, cells := 1, slots := 6, locals := 170 }) (z_Pc D [.ref h0, .int a0, .ref ho] [(h0, .inr (6, [.ref hu, .ref hs, .ref hc, .ref hp, .ref hg, .int 0, .int 0, .int 0, .int td, .int sd])), (ho, .inl (cJ, 1, .inr (.inl fo)))] [(cJ, .long)] sz) (va_Qi (fun (r : Int32) (_ : Unit) => r = 1) (fun _ t => z_W D [(h0, .inr (6, [.ref hu, .ref hs, .ref hc, .ref hp, .ref hg, .int 0, .int 0, .int 0, .int td, .int sd])), (ho, .inl (cJ, 1, .inr (.inl fo)))] [(cJ, .long)] (va_A [(h0, .inr (6, [.ref hu, .ref hs, .ref hc, .ref hp, .ref hg, .int 0, .int 0, .int 0, .int td, .int sd])), (ho, .inl (cJ, 1, .inr (.inl fo)))] sz) t) (va_A [(h0, .inr (6, [.ref hu, .ref hs, .ref hc, .ref hp, .ref hg, .int 0, .int 0, .int 0, .int td, .int sd])), (ho, .inl (cJ, 1, .inr (.inl fo)))] sz)) (z_T (False) "none" D [(h0, .inr (6, [.ref hu, .ref hs, .ref hc, .ref hp, .ref hg, .int 0, .int 0, .int 0, .int td, .int sd])), (ho, .inl (cJ, 1, .inr (.inl fo)))] [(cJ, .long)] sz) 1 6 (va_A [(h0, .inr (6, [.ref hu, .ref hs, .ref hc, .ref hp, .ref hg, .int 0, .int 0, .int 0, .int td, .int sd])), (ho, .inl (cJ, 1, .inr (.inl fo)))] sz) := by
  refine vx_ofWH (cc := cL_canWork) (maxL := 4) (ret := (some .int)) (hh := [(0, 16, 19, 23)]) (by decide +kernel) rfl ?_
  intro p e s m args below meth c s₁ B hml hv
  obtain ⟨rfl, hsz, hP, hK, hD0, hE, hX0⟩ := hv
  have hx := B.exec
  have hb := B.bytes
  have hr := B.returns
  have hts := z_E.ts (args := [.ref h0, .int a0, .ref ho].toArray) hE
  have hown : s.vm.findClass RL = some m.cls := findClass_of_methodNamed B.named
  have hlocks := B.notSynchronized
  have htb := vx_table (x := yL_canWork) B (atoms_spec (ws := [Cond.codeWith yL_canWork cL_canWork 4 (some .int) [(0, 16, 19, 23)]]) B.pre _ List.mem_cons_self)
  subst hsz
  have hD := hD0.self (sz := s.heap.size)
  generalize hAe : va_A [(h0, .inr (6, [.ref hu, .ref hs, .ref hc, .ref hp, .ref hg, .int 0, .int 0, .int 0, .int td, .int sd])), (ho, .inl (cJ, 1, .inr (.inl fo)))] s.heap.size = A at hD hX0 ⊢
  have hX : z_X D A s s.heap := hX0
  have hA : ∀ q : Nat, s.heap.size ≤ q → A q := fun q h => by rw [← hAe]; exact Or.inr h
  have hS : va_S A s.heap s.heap [] := va_S.rf
  have hP : va_P D vwCl [(h0, .inr (6, [.ref hu, .ref hs, .ref hc, .ref hp, .ref hg, .int 0, .int 0, .int 0, .int td, .int sd])), (ho, .inl (cJ, 1, .inr (.inl fo)))] s.heap := hP
  have hl := lv_entry ([.ref h0, .int a0, .ref ho]) (n := 4) (Nat.le_of_ble_eq_true rfl)
  rw [lg_entry_eq]
  generalize (lg_sl ([.ref h0, .int a0, .ref ho]) ++ List.replicate (4 - (lg_sl ([.ref h0, .int a0, .ref ho])).length) Slot.unset).toArray = ls at hl ⊢
  have hl : lv_has ls 4 [(0, .ref h0), (1, .int a0), (2, .ref ho)] := hl
  skip
  refine lv_aload_n hx hb dL_canWork_0 rfl (lv_at hl 2 rfl) ?_
  refine lv_iconst (v := 0) hx hb dL_canWork_1 (by decide) ?_
  refine lv_aload_n hx hb dL_canWork_2 rfl (lv_at hl 0 rfl) ?_
  refine lv_iload_n hx hb dL_canWork_3 rfl (lv_at hl 1 rfl) ?_
  obtain ⟨hb_1, hc_1⟩ := z_call (wc := [(h0, .inr (6, [.ref hu, .ref hs, .ref hc, .ref hp, .ref hg, .int 0, .int 0, .int 0, .int td, .int sd]))]) (tc := []) ([.ref h0, .int a0]) hP hK hD hS hA hE hX [0] rfl rfl [] rfl
  have hF_1 := va_free (wc := [(h0, .inr (6, [.ref hu, .ref hs, .ref hc, .ref hp, .ref hg, .int 0, .int 0, .int 0, .int td, .int sd]))]) hD hS hA [0] rfl
  refine vx_calli (vx_runV (As := [.int a0]) (rest := [.int 0, .ref ho]) ⟨hx, hb, hml, hown, hts⟩ (f_X4_canWork l hst D h0 hu hs hc hp hg td sd a0 _ ) (z_cV 1 hE zw_901 zw_902 zw_903 zw_91 zw_904 rfl rfl rfl (by decide +kernel) ⟨(Nat.le_of_ble_eq_true rfl), (Nat.le_of_ble_eq_true rfl)⟩) ⟨hb_1, va_recv hK hP (ci := 6) (q0 := 0) rfl rfl, hc_1⟩ rfl rfl hl.1 rfl (lv_room (Nat.le_of_ble_eq_true rfl)) dL_canWork_4 ⟨(Nat.le_of_ble_eq_true rfl), (Nat.le_of_ble_eq_true rfl)⟩) hS (fun q _ h => hF_1 q h) hF_1 (fun q _ h => hF_1 q h) (fun E_1 ce_1 q9_1 u_1 t_1 H1 locs ht_1 hvm_1 hw_1 hB_1 hz_1 hk_1 hS1 hce_1 hcv_1 hcl_1 => ?_) (fun r_1 u_1 t_1 H1 locs ht_1 hvm_1 hw_1 hB_1 hz_1 hk_1 hS1 => ?_)
  · obtain ⟨rfl, hB_1⟩ := hB_1
    obtain ⟨hP, hK, hD⟩ := z_back (wc := [(h0, .inr (6, [.ref hu, .ref hs, .ref hc, .ref hp, .ref hg, .int 0, .int 0, .int 0, .int td, .int sd]))]) (wr := [(ho, .inl (cJ, 1, .inr (.inl fo)))]) (w1 := [(h0, .inr (6, [.ref hu, .ref hs, .ref hc, .ref hp, .ref hg, .int 0, .int 0, .int 0, .int td, .int sd]))]) (tr := [(cJ, .long)]) hP hK hD [0] [1] rfl rfl rfl (by decide) ht_1 hvm_1 hk_1 hF_1 [0] rfl hB_1
    have hS := hS1
    have hP : va_P D vwCl [(ho, .inl (cJ, 1, .inr (.inl fo))), (h0, .inr (6, [.ref hu, .ref hs, .ref hc, .ref hp, .ref hg, .int 0, .int 0, .int 0, .int td, .int sd]))] H1 := hP
    have hD : va_D A [(ho, .inl (cJ, 1, .inr (.inl fo))), (h0, .inr (6, [.ref hu, .ref hs, .ref hc, .ref hp, .ref hg, .int 0, .int 0, .int 0, .int td, .int sd]))] := hD
    have hK : va_K D vwCl [(cJ, .long)] s := hK
    clear hS1
    refine vx_catch (name := "java/lang/IndexOutOfBoundsException") hown [] ⟨0, 16, 19, 23⟩ [] (htb.trans rfl) (fun z hz => nomatch hz) (by decide) (by decide) (hts _ zw_520) (hts _ zw_531) hce_1 hcv_1 hcl_1 ?_
    refine lv_astore_n (lv' := [(3, .ref q9_1), (0, .ref h0), (1, .int a0), (2, .ref ho)]) hx hb dL_canWork_19 rfl hl (by decide) rfl (fun ls hl => ?_)
    refine lv_iconst (v := 1) hx hb dL_canWork_20 (by decide) ?_
    exact vx_ret (W.iret (v := 1) hx hb hr (fun t ht hW => ⟨⟨1, (), rfl, rfl, z_end hP hK hD [1, 0] rfl rfl [0] rfl ht hW.alike⟩, hS.F ht⟩) hS.2.2 dL_canWork_21)
  · exact hw_1.elim
