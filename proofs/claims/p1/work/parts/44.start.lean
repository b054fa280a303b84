theorem z_l7 : ∀ L : Nat, L < 7 → Int32.ofNat L - 7 < 0 := by decide +kernel
theorem zw_124 : Cond.instantiable RX4 10 ∈ z_Ts := z_m 124 (by decide +kernel) (by decide +kernel)
set_option maxRecDepth 20000 in
theorem zin_X6 : ∀ w ∈ u_ws RX6 TX6 12, w ∈ z_Ts := z_ins (by decide +kernel) (by decide +kernel)
theorem zw_1399 : Cond.instantiable RX6 12 ∈ z_Ts := z_m 1399 (by decide +kernel) (by decide +kernel)
theorem zw_1046 : Cond.instantiable RX8 9 ∈ z_Ts := z_m 1046 (by decide +kernel) (by decide +kernel)
theorem zw_1566 : Cond.stringRef RX8 256 "dnh" ∈ z_Ts := z_m 1566 (by decide +kernel) (by decide +kernel)
theorem dL_law_0 : decode cL_law 0 = .ok (.new 8, 3) := by decide +kernel
theorem zw_123 : Cond.classLink RL 8 RX4 ∈ z_Ts := z_m 123 (by decide +kernel) (by decide +kernel)
theorem dL_law_3 : decode cL_law 3 = .ok (.dup, 1) := by decide +kernel
theorem dL_law_4 : decode cL_law 4 = .ok (.invokespecial 146, 3) := by decide +kernel
theorem zw_125 : Cond.methodLink RL 146 yX4_init ∈ z_Ts := z_m 125 (by decide +kernel) (by decide +kernel)
theorem zw_127 : Cond.code yX4_init cX4_init 2 none ∈ z_Ts := z_m 127 (by decide +kernel) (by decide +kernel)
theorem zw_126 : Cond.instanceMethod yX4_init ∈ z_Ts := z_m 126 (by decide +kernel) (by decide +kernel)
theorem dL_law_7 : decode cL_law 7 = .ok (.astore_n 1, 1) := by decide +kernel
theorem dL_law_8 : decode cL_law 8 = .ok (.new 147, 3) := by decide +kernel
theorem zw_1045 : Cond.classLink RL 147 RX8 ∈ z_Ts := z_m 1045 (by decide +kernel) (by decide +kernel)
theorem dL_law_11 : decode cL_law 11 = .ok (.dup, 1) := by decide +kernel
theorem dL_law_12 : decode cL_law 12 = .ok (.invokespecial 149, 3) := by decide +kernel
theorem zw_1047 : Cond.methodLink RL 149 yX8_init ∈ z_Ts := z_m 1047 (by decide +kernel) (by decide +kernel)
theorem zw_1049 : Cond.code yX8_init cX8_init 2 none ∈ z_Ts := z_m 1049 (by decide +kernel) (by decide +kernel)
theorem zw_1048 : Cond.instanceMethod yX8_init ∈ z_Ts := z_m 1048 (by decide +kernel) (by decide +kernel)
theorem dL_law_15 : decode cL_law 15 = .ok (.astore_n 2, 1) := by decide +kernel
theorem dL_law_16 : decode cL_law 16 = .ok (.iconst 1, 1) := by decide +kernel
theorem dL_law_17 : decode cL_law 17 = .ok (.newarray .long, 2) := by decide +kernel
theorem dL_law_19 : decode cL_law 19 = .ok (.astore_n 3, 1) := by decide +kernel
theorem dL_law_20 : decode cL_law 20 = .ok (.iconst 1, 1) := by decide +kernel
theorem dL_law_21 : decode cL_law 21 = .ok (.newarray .double, 2) := by decide +kernel
theorem zw_1749 : Cond.arrayClass .double ∈ z_Ts := z_m 1749 (by decide +kernel) (by decide +kernel)
theorem dL_law_23 : decode cL_law 23 = .ok (.astore 4, 2) := by decide +kernel
theorem dL_law_25 : decode cL_law 25 = .ok (.iconst 0, 1) := by decide +kernel
theorem dL_law_26 : decode cL_law 26 = .ok (.istore 5, 2) := by decide +kernel
theorem dL_law_38 : decode cL_law 38 = .ok (.aload_n 0, 1) := by decide +kernel
theorem dL_law_39 : decode cL_law 39 = .ok (.iload 5, 2) := by decide +kernel
theorem dL_law_41 : decode cL_law 41 = .ok (.iaload, 1) := by decide +kernel
theorem dL_law_42 : decode cL_law 42 = .ok (.bipush 63, 2) := by decide +kernel
theorem dL_law_44 : decode cL_law 44 = .ok (.iand, 1) := by decide +kernel
theorem dL_law_45 : decode cL_law 45 = .ok (.tableswitch 2618 0 42 #[187, 243, 311, 379, 454, 522, 578, 634, 690, 746, 814, 948, 1004, 1060, 1116, 1184, 1240, 1296, 1359, 1415, 1471, 1527, 1590, 1646, 1702, 1715, 1783, 1839, 1852, 1910, 1978, 2041, 2097, 2167, 2211, 2267, 2322, 2391, 2446, 2460, 2474, 2540, 2605], 187) := by decide +kernel
set_option maxHeartbeats 4000000 in
set_option maxRecDepth 100000 in
/-- THE LAW on scripts of at most seven ints: one call on the new object, or none -/
theorem whole_start {p : Program} {e : Env} {s : State} {m : MethodId} {below : List Frame} {meth : Method} {c : Code} (l : Launch) (hflags : l.flags = flags0) {b L : Nat} {xs : Nat → Int32} (hL : L ≤ 7) (C0 : lw_At p s m meth c b L xs) : W p l e room_1 s m #[Value.ref b] below meth c s.heap [] 0 0 (lw_Z below #[Value.ref b] s) (entryFrame m ([Value.ref b] : List Value).toArray 9) := by
  obtain ⟨hx, hb, hr, hml, hown, hts0, hXs, hbl, hlocks, hgv⟩ := id C0
  have hst : l.stackTraces = false := by unfold Launch.stackTraces; rw [hflags]; decide
  have hE : z_E s := z_E.of hts0
  have hts := z_E.ts (args := #[Value.ref b]) hE
  have hown : s.vm.findClass RL = some m.cls := hown
  obtain ⟨c0, i0, hKn0⟩ := u_known (C := RJx35411) (T := TJx35411) (N := 4) (n := 4) hts zin_Jx35411 (hts _ zw_1261)
  obtain ⟨c1, i1, hKn1⟩ := u_known (C := RJx4a65c) (T := TJx4a65c) (N := 3) (n := 3) hts zin_Jx4a65c (hts _ zw_1052)
  obtain ⟨c2, i2, hKn2⟩ := u_known (C := RX0) (T := TX0) (N := 2) (n := 2) hts zin_X0 (hts _ zw_272)
  obtain ⟨c3, i3, hKn3⟩ := u_known (C := RX1) (T := TX1) (N := 8) (n := 8) hts zin_X1 (hts _ zw_138)
  obtain ⟨c4, i4, hKn4⟩ := u_known (C := RX2) (T := TX2) (N := 14) (n := 14) hts zin_X2 (hts _ zw_209)
  obtain ⟨c5, i5, hKn5⟩ := u_known (C := RX3) (T := TX3) (N := 7) (n := 7) hts zin_X3 (hts _ zw_171)
  obtain ⟨c6, i6, hKn6⟩ := u_known (C := RX4) (T := TX4) (N := 10) (n := 10) hts zin_X4 (hts _ zw_124)
  obtain ⟨c7, i7, hKn7⟩ := u_known (C := RX5) (T := TX5) (N := 2) (n := 2) hts zin_X5 (hts _ zw_1649)
  obtain ⟨c8, i8, hKn8⟩ := u_known (C := RX6) (T := TX6) (N := 12) (n := 12) hts zin_X6 (hts _ zw_1399)
  obtain ⟨c9, i9, hKn9⟩ := u_known (C := RX7) (T := TX7) (N := 7) (n := 7) hts zin_X7 (hts _ zw_1130)
  obtain ⟨c10, i10, hKn10⟩ := u_known (C := RX8) (T := TX8) (N := 9) (n := 9) hts zin_X8 (hts _ zw_1046)
  obtain ⟨A, hAd⟩ : ∃ A : Nat → Prop, A = fun q : Nat => s.heap.size ≤ q := ⟨_, rfl⟩
  have hA : ∀ q : Nat, s.heap.size ≤ q → A q := fun q h => by rw [hAd]; exact h
  have hAF : ∀ q : Nat, A q → s.heap.size ≤ q := fun q h => by rw [hAd] at h; exact h
  have hAs : ∀ a : Nat, a < s.heap.size → ¬ A a := fun a h q => Nat.not_le.mpr h (hAF a q)
  have hbA : ¬ A b := hAs b hbl
  have hfl := flat_of_before _ hgv
  obtain ⟨e0, he0, hT0⟩ := va_Tof (args := #[Value.ref b]) (tm := .static "java/util/ArrayList" "DEFAULTCAPACITY_EMPTY_ELEMENTDATA" "[Ljava/lang/Object;") (ty := .object "java/lang/Object") (N := 0) (f := fun _ => .null) (A := A) (by decide) (hfl (.arrayOf (.static "java/util/ArrayList" "DEFAULTCAPACITY_EMPTY_ELEMENTDATA" "[Ljava/lang/Object;") (.object "java/lang/Object")) (by decide +kernel)) (va_eqt (hfl (.eq (.length (.static "java/util/ArrayList" "DEFAULTCAPACITY_EMPTY_ELEMENTDATA" "[Ljava/lang/Object;")) (.int 0)) (by decide +kernel))) (fun j hj => absurd hj (Nat.not_lt_zero _)) hAs
  have hZ0 := va_Zref (A := A) (hts0 _ (List.mem_of_getElem? (i := 1064) (by decide +kernel))) (hts0 _ (List.mem_of_getElem? (i := 99) (by decide +kernel))) he0 hAs
  obtain ⟨adK, adV, hS1, hev⟩ := vk_Sof (args := #[Value.ref b]) (s := s) (N := 1) (tm := fun _ => .string "TwofrontArcadeModel" 256) (len := [3]) (byt := [[100, 110, 104]]) (A := A) (fun i hi => by (obtain rfl : i = 0 := (by omega)); decide)
    (fun i hi => by (obtain rfl : i = 0 := (by omega)); exact hfl (.exactly (.string "TwofrontArcadeModel" 256) "java/lang/String") (by decide +kernel))
    (fun i hi => by (obtain rfl : i = 0 := (by omega)); exact hfl (.eq (.field (.string "TwofrontArcadeModel" 256) "java/lang/String" "coder" "B") (.int 0)) (by decide +kernel))
    (fun i hi => by (obtain rfl : i = 0 := (by omega)); exact hfl (.arrayOf (.field (.string "TwofrontArcadeModel" 256) "java/lang/String" "value" "[B") .byte) (by decide +kernel))
    (fun i hi => by (obtain rfl : i = 0 := (by omega)); exact hfl (.eq (.length (.field (.string "TwofrontArcadeModel" 256) "java/lang/String" "value" "[B")) (.int 3)) (by decide +kernel))
    (fun i hi j hj => by
      obtain rfl : i = 0 := by omega
      exact (match j, hj with
        | 0, _ => hfl (.eq (.elem (.field (.string "TwofrontArcadeModel" 256) "java/lang/String" "value" "[B") (.int 0)) (.int 100)) (by decide +kernel)
        | 1, _ => hfl (.eq (.elem (.field (.string "TwofrontArcadeModel" 256) "java/lang/String" "value" "[B") (.int 1)) (.int 110)) (by decide +kernel)
        | 2, _ => hfl (.eq (.elem (.field (.string "TwofrontArcadeModel" 256) "java/lang/String" "value" "[B") (.int 2)) (.int 104)) (by decide +kernel)
        | j + 3, hj => absurd (show j + 3 < 3 from hj) (by omega)))
    (fun i j hi hj hij => absurd (show i = j by omega) hij) hAs
  have hZc := va_Zof (A := A) (hts0 _ (List.mem_of_getElem? (i := 1580) (by decide +kernel))) (hts0 _ (List.mem_of_getElem? (i := 118) (by decide +kernel))) (va_eqt (hfl (.eq (.static "java/lang/String" "COMPACT_STRINGS" "Z") (.int 1)) (by decide +kernel))) hAs
  have hZu := vx_Zqof (A := A) (hts0 _ (List.mem_of_getElem? (i := 442) (by decide +kernel))) (hts0 _ (List.mem_of_getElem? (i := 100) (by decide +kernel))) (hfl (.isRef (.static "java/lang/Throwable" "UNASSIGNED_STACK" "[Ljava/lang/StackTraceElement;")) (by decide +kernel)) hAs
  have hZs := vx_Zqof (A := A) (hts0 _ (List.mem_of_getElem? (i := 444) (by decide +kernel))) (hts0 _ (List.mem_of_getElem? (i := 100) (by decide +kernel))) (hfl (.isRef (.static "java/lang/Throwable" "SUPPRESSED_SENTINEL" "Ljava/util/List;")) (by decide +kernel)) hAs
  have hFhasNext : va_Fw "java/util/ArrayList$Itr" z_iterH yJx35411_hasNext_aae02 s := va_Fw.of (A := #[Value.ref b]) (hts0 _ (List.mem_of_getElem? (i := 1282) (by decide +kernel))) (hts0 _ (List.mem_of_getElem? (i := 1281) (by decide +kernel))) (hts0 _ (List.mem_of_getElem? (i := 1287) (by decide +kernel))) (hts0 _ (List.mem_of_getElem? (i := 1285) (by decide +kernel))) (hts0 _ (List.mem_of_getElem? (i := 1283) (by decide +kernel)))
  have hFnext : va_Fw "java/util/ArrayList$Itr" z_iterN yJx35411_next_0502b s := va_Fw.of (A := #[Value.ref b]) (hts0 _ (List.mem_of_getElem? (i := 1292) (by decide +kernel))) (hts0 _ (List.mem_of_getElem? (i := 1291) (by decide +kernel))) (hts0 _ (List.mem_of_getElem? (i := 1296) (by decide +kernel))) (hts0 _ (List.mem_of_getElem? (i := 1294) (by decide +kernel))) (hts0 _ (List.mem_of_getElem? (i := 1283) (by decide +kernel)))
  obtain ⟨D, hKD, hDe, hDk, hDv⟩ : ∃ D : va_G, (∀ (k : Nat) (q : vw_C), vwCl[k]? = some q → u_Kn s q.1 q.2.1 q.2.2 (D.1 k) (D.2 k)) ∧ D.2 50 0 = e0 ∧ D.2 51 0 = adK 0 ∧ D.2 51 1 = adV 0 := by
    refine ⟨(fun k => match k with | 0 => c0 | 1 => c1 | 2 => c2 | 3 => c3 | 4 => c4 | 5 => c5 | 6 => c6 | 7 => c7 | 8 => c8 | 9 => c9 | _ => c10, fun k => match k with | 0 => i0 | 1 => i1 | 2 => i2 | 3 => i3 | 4 => i4 | 5 => i5 | 6 => i6 | 7 => i7 | 8 => i8 | 9 => i9 | 50 => (fun _ => e0) | 51 => (fun j => if j = 0 then adK 0 else adV 0) | _ => i10), ?_, rfl, rfl, rfl⟩
    intro k q hq
    match k, hq with
    | 0, hq => cases hq; exact hKn0
    | 1, hq => cases hq; exact hKn1
    | 2, hq => cases hq; exact hKn2
    | 3, hq => cases hq; exact hKn3
    | 4, hq => cases hq; exact hKn4
    | 5, hq => cases hq; exact hKn5
    | 6, hq => cases hq; exact hKn6
    | 7, hq => cases hq; exact hKn7
    | 8, hq => cases hq; exact hKn8
    | 9, hq => cases hq; exact hKn9
    | 10, hq => cases hq; exact hKn10
    | k + 11, hq => simp [vwCl] at hq
  have hS2 : vk_S 1 [3] [[100, 110, 104]] (fun _ => D.2 51 0) (fun _ => D.2 51 1) A s s.heap := by
    have h0 : (fun _ : Nat => D.2 51 0) = fun _ => adK 0 := funext fun _ => hDk
    have h1 : (fun _ : Nat => D.2 51 1) = fun _ => adV 0 := funext fun _ => hDv
    rw [h0, h1]
    exact ⟨fun i hi => (by
    have hi0 : i = 0 := by omega
    subst hi0
    exact hS1.1 0 hi), fun i j hi hj _ => by omega⟩
  have hR1 : vk_R RX8 256 "dnh" (D.2 51 0) s := by rw [hDk]; exact vk_R.of (A := #[Value.ref b]) (hts _ zw_1566) (hev 0 (by decide))
  have hX : z_X D A s s.heap := ⟨⟨hZu, hZs⟩, ⟨hFhasNext, hFnext⟩, ⟨by rw [hDe]; exact hZ0, by rw [hDe]; exact hT0⟩, hR1, hS2, hZc⟩
  have hS : va_S A s.heap s.heap [] := va_S.rf
  have hK : va_K D vwCl [] s := ⟨hKD, fun k q h => by simp at h⟩
  have hP : va_P D vwCl [] s.heap := fun k q h => by simp at h
  have hD : va_D A [] := ⟨fun i j p q h => by simp at h, fun k q h => by simp at h⟩
  have hl := lv_entry ([.ref b]) (n := 9) (Nat.le_of_ble_eq_true rfl)
  rw [lg_entry_eq]
  generalize (lg_sl ([.ref b]) ++ List.replicate (9 - (lg_sl ([.ref b])).length) Slot.unset).toArray = ls at hl ⊢
  have hl : lv_has ls 9 [(0, .ref b)] := hl
  refine va_new (ci := 6) (fs := [.null, .null, .null, .null, .null, .int 0, .int 0, .int 0, .int 0, .int 0]) (C := RX4) (T := TX4) (N := 10) hx hb hts zin_X4 tyX4 tyX4_ok hown (hts _ zw_123) (hts _ zw_124) (hts _ zw_91) hK hP hD hS hA rfl (fun j hj => by rcases (show j = 0 ∨ j = 1 ∨ j = 2 ∨ j = 3 ∨ j = 4 ∨ j = 5 ∨ j = 6 ∨ j = 7 ∨ j = 8 ∨ j = 9 by omega) with rfl | rfl | rfl | rfl | rfl | rfl | rfl | rfl | rfl | rfl <;> rfl) (Nat.le_of_ble_eq_true rfl) (Nat.le_of_ble_eq_true rfl) dL_law_0 (fun q_1 H hP hD hS => ?_)
  have hP : va_P D vwCl [(q_1, .inr (6, [.null, .null, .null, .null, .null, .int 0, .int 0, .int 0, .int 0, .int 0]))] H := hP
  have hD : va_D A [(q_1, .inr (6, [.null, .null, .null, .null, .null, .int 0, .int 0, .int 0, .int 0, .int 0]))] := hD
  obtain ⟨h0, rfl⟩ : ∃ z, z = q_1 := ⟨_, rfl⟩
  refine lv_dup hx hb dL_law_3 rfl ?_
  obtain ⟨hb_2, hc_2⟩ := z_call (wc := [(h0, .inr (6, [.null, .null, .null, .null, .null, .int 0, .int 0, .int 0, .int 0, .int 0]))]) (tc := []) ([.ref h0]) hP hK hD hS hA hE hX [0] rfl rfl [] rfl
  have hF_2 := va_free (wc := [(h0, .inr (6, [.null, .null, .null, .null, .null, .int 0, .int 0, .int 0, .int 0, .int 0]))]) hD hS hA [0] rfl
  refine va_callv (va_runI (As := []) (rest := [.ref h0]) ⟨hx, hb, hml, hown, hts⟩ (c_X4_init l D h0 _ ) (⟨z_cB 0 hE zw_125 zw_91 zw_127 rfl rfl rfl (by decide +kernel) ⟨(Nat.le_of_ble_eq_true rfl), (Nat.le_of_ble_eq_true rfl)⟩, rfl, hE.ts _ zw_126⟩) ⟨hb_2, hc_2⟩ rfl rfl hl.1 rfl (lv_room (Nat.le_of_ble_eq_true rfl)) dL_law_4 ⟨(Nat.le_of_ble_eq_true rfl), (Nat.le_of_ble_eq_true rfl)⟩) hS (fun q _ h => hF_2 q h) hF_2 (fun u_2 t_2 H1 locs ht_2 hvm_2 hw_2 hB_2 hz_2 hk_2 hS1 => ?_)
  obtain ⟨hu, hs, hc, hp, hg, u0, ul, w0, go, gs, ge, gb, cU, cC, cP, cS, cB, fu, fc, fp, hfu, hfc, hfp, hB_2⟩ := hB_2
  obtain ⟨hP, hK, hD⟩ := z_back (wc := [(h0, .inr (6, [.null, .null, .null, .null, .null, .int 0, .int 0, .int 0, .int 0, .int 0]))]) (wr := []) (w1 := [(h0, .inr (6, [.ref hu, .ref hs, .ref hc, .ref hp, .ref hg, .int 0, .int 0, .int 0, .int 0, .int 0])), (hu, .inl (cU, 10, .inr (.inr (.inr (.inr fu))))), (u0, .inr (5, [.ref ul, .int 0, .int 0, .int 45, .int 0, .int 0, .int (-1)])), (hc, .inl (cC, 4, .inr (.inr (.inr (.inr fc))))), (w0, .inr (2, [.int 100, .int (-1)])), (hp, .inl (cP, 7, .inl fp)), (hg, .inr (3, [.ref go, .ref gs, .ref ge, .ref gb, .int 0, .int 0, .int 0, .int 0])), (gs, .inl (cS, 10, .inl (fun _ => 0))), (gb, .inl (cB, 10, .inl (fun _ => 0)))]) (tr := []) hP hK hD [0] [] rfl rfl rfl (by decide) ht_2 hvm_2 hk_2 hF_2 [] rfl hB_2
  have hS := hS1
  have hP : va_P D vwCl [(h0, .inr (6, [.ref hu, .ref hs, .ref hc, .ref hp, .ref hg, .int 0, .int 0, .int 0, .int 0, .int 0])), (hu, .inl (cU, 10, .inr (.inr (.inr (.inr fu))))), (u0, .inr (5, [.ref ul, .int 0, .int 0, .int 45, .int 0, .int 0, .int (-1)])), (hc, .inl (cC, 4, .inr (.inr (.inr (.inr fc))))), (w0, .inr (2, [.int 100, .int (-1)])), (hp, .inl (cP, 7, .inl fp)), (hg, .inr (3, [.ref go, .ref gs, .ref ge, .ref gb, .int 0, .int 0, .int 0, .int 0])), (gs, .inl (cS, 10, .inl (fun _ => 0))), (gb, .inl (cB, 10, .inl (fun _ => 0)))] H1 := hP
  have hD : va_D A [(h0, .inr (6, [.ref hu, .ref hs, .ref hc, .ref hp, .ref hg, .int 0, .int 0, .int 0, .int 0, .int 0])), (hu, .inl (cU, 10, .inr (.inr (.inr (.inr fu))))), (u0, .inr (5, [.ref ul, .int 0, .int 0, .int 45, .int 0, .int 0, .int (-1)])), (hc, .inl (cC, 4, .inr (.inr (.inr (.inr fc))))), (w0, .inr (2, [.int 100, .int (-1)])), (hp, .inl (cP, 7, .inl fp)), (hg, .inr (3, [.ref go, .ref gs, .ref ge, .ref gb, .int 0, .int 0, .int 0, .int 0])), (gs, .inl (cS, 10, .inl (fun _ => 0))), (gb, .inl (cB, 10, .inl (fun _ => 0)))] := hD
  have hK : va_K D vwCl [(cU, .object RX3), (cC, .object RX0), (cP, .int), (cS, .int), (cB, .int)] s := hK
  clear hS1
  refine lv_astore_n (lv' := [(1, .ref h0), (0, .ref b)]) hx hb dL_law_7 rfl hl (by decide) rfl (fun ls hl => ?_)
  refine va_new (ci := 10) (fs := [.int 0, .null, .null, .null, .null, .int 0, .int 0, .int 0, .null]) (C := RX8) (T := TX8) (N := 9) hx hb hts zin_X8 tyX8 tyX8_ok hown (hts _ zw_1045) (hts _ zw_1046) (hts _ zw_96) hK hP hD hS hA rfl (fun j hj => by rcases (show j = 0 ∨ j = 1 ∨ j = 2 ∨ j = 3 ∨ j = 4 ∨ j = 5 ∨ j = 6 ∨ j = 7 ∨ j = 8 by omega) with rfl | rfl | rfl | rfl | rfl | rfl | rfl | rfl | rfl <;> rfl) (Nat.le_of_ble_eq_true rfl) (Nat.le_of_ble_eq_true rfl) dL_law_8 (fun q_3 H hP hD hS => ?_)
  have hP : va_P D vwCl [(h0, .inr (6, [.ref hu, .ref hs, .ref hc, .ref hp, .ref hg, .int 0, .int 0, .int 0, .int 0, .int 0])), (hu, .inl (cU, 10, .inr (.inr (.inr (.inr fu))))), (u0, .inr (5, [.ref ul, .int 0, .int 0, .int 45, .int 0, .int 0, .int (-1)])), (hc, .inl (cC, 4, .inr (.inr (.inr (.inr fc))))), (w0, .inr (2, [.int 100, .int (-1)])), (hp, .inl (cP, 7, .inl fp)), (hg, .inr (3, [.ref go, .ref gs, .ref ge, .ref gb, .int 0, .int 0, .int 0, .int 0])), (gs, .inl (cS, 10, .inl (fun _ => 0))), (gb, .inl (cB, 10, .inl (fun _ => 0))), (q_3, .inr (10, [.int 0, .null, .null, .null, .null, .int 0, .int 0, .int 0, .null]))] H := hP
  have hD : va_D A [(h0, .inr (6, [.ref hu, .ref hs, .ref hc, .ref hp, .ref hg, .int 0, .int 0, .int 0, .int 0, .int 0])), (hu, .inl (cU, 10, .inr (.inr (.inr (.inr fu))))), (u0, .inr (5, [.ref ul, .int 0, .int 0, .int 45, .int 0, .int 0, .int (-1)])), (hc, .inl (cC, 4, .inr (.inr (.inr (.inr fc))))), (w0, .inr (2, [.int 100, .int (-1)])), (hp, .inl (cP, 7, .inl fp)), (hg, .inr (3, [.ref go, .ref gs, .ref ge, .ref gb, .int 0, .int 0, .int 0, .int 0])), (gs, .inl (cS, 10, .inl (fun _ => 0))), (gb, .inl (cB, 10, .inl (fun _ => 0))), (q_3, .inr (10, [.int 0, .null, .null, .null, .null, .int 0, .int 0, .int 0, .null]))] := hD
  obtain ⟨m0, rfl⟩ : ∃ z, z = q_3 := ⟨_, rfl⟩
  refine lv_dup hx hb dL_law_11 rfl ?_
  obtain ⟨hb_4, hc_4⟩ := z_call (wc := [(m0, .inr (10, [.int 0, .null, .null, .null, .null, .int 0, .int 0, .int 0, .null]))]) (tc := []) ([.ref m0]) hP hK hD hS hA hE hX [9] rfl rfl [] rfl
  have hF_4 := va_free (wc := [(m0, .inr (10, [.int 0, .null, .null, .null, .null, .int 0, .int 0, .int 0, .null]))]) hD hS hA [9] rfl
  refine va_callv (va_runI (As := []) (rest := [.ref m0]) ⟨hx, hb, hml, hown, hts⟩ (c_X8_init l D m0 _ ) (⟨z_cB 0 hE zw_1047 zw_96 zw_1049 rfl rfl rfl (by decide +kernel) ⟨(Nat.le_of_ble_eq_true rfl), (Nat.le_of_ble_eq_true rfl)⟩, rfl, hE.ts _ zw_1048⟩) ⟨hb_4, hc_4⟩ rfl rfl hl.1 rfl (lv_room (Nat.le_of_ble_eq_true rfl)) dL_law_12 ⟨(Nat.le_of_ble_eq_true rfl), (Nat.le_of_ble_eq_true rfl)⟩) hS (fun q _ h => hF_4 q h) hF_4 (fun u_4 t_4 H1 locs ht_4 hvm_4 hw_4 hB_4 hz_4 hk_4 hS1 => ?_)
  obtain ⟨qu, qs, qc, qp, cM, fm, hfm, hB_4⟩ := hB_4
  obtain ⟨hP, hK, hD⟩ := z_back (wc := [(m0, .inr (10, [.int 0, .null, .null, .null, .null, .int 0, .int 0, .int 0, .null]))]) (wr := [(h0, .inr (6, [.ref hu, .ref hs, .ref hc, .ref hp, .ref hg, .int 0, .int 0, .int 0, .int 0, .int 0])), (hu, .inl (cU, 10, .inr (.inr (.inr (.inr fu))))), (u0, .inr (5, [.ref ul, .int 0, .int 0, .int 45, .int 0, .int 0, .int (-1)])), (hc, .inl (cC, 4, .inr (.inr (.inr (.inr fc))))), (w0, .inr (2, [.int 100, .int (-1)])), (hp, .inl (cP, 7, .inl fp)), (hg, .inr (3, [.ref go, .ref gs, .ref ge, .ref gb, .int 0, .int 0, .int 0, .int 0])), (gs, .inl (cS, 10, .inl (fun _ => 0))), (gb, .inl (cB, 10, .inl (fun _ => 0)))]) (w1 := [(m0, .inr (10, [.int 0, .ref qu, .ref qs, .ref qc, .ref qp, .int 0, .int (-1), .int 0, .null])), (qu, .inr (1, [.int 0, .ref (D.2 50 0), .int 0])), (qs, .inr (1, [.int 0, .ref (D.2 50 0), .int 0])), (qc, .inr (1, [.int 0, .ref (D.2 50 0), .int 0])), (qp, .inl (cM, 7, .inl fm))]) (tr := [(cU, .object RX3), (cC, .object RX0), (cP, .int), (cS, .int), (cB, .int)]) hP hK hD [9] [0, 1, 2, 3, 4, 5, 6, 7, 8] rfl rfl rfl (by decide) ht_4 hvm_4 hk_4 hF_4 [0, 1, 2, 3, 4] rfl hB_4
  have hS := hS1
  have hP : va_P D vwCl [(h0, .inr (6, [.ref hu, .ref hs, .ref hc, .ref hp, .ref hg, .int 0, .int 0, .int 0, .int 0, .int 0])), (hu, .inl (cU, 10, .inr (.inr (.inr (.inr fu))))), (u0, .inr (5, [.ref ul, .int 0, .int 0, .int 45, .int 0, .int 0, .int (-1)])), (hc, .inl (cC, 4, .inr (.inr (.inr (.inr fc))))), (w0, .inr (2, [.int 100, .int (-1)])), (hp, .inl (cP, 7, .inl fp)), (hg, .inr (3, [.ref go, .ref gs, .ref ge, .ref gb, .int 0, .int 0, .int 0, .int 0])), (gs, .inl (cS, 10, .inl (fun _ => 0))), (gb, .inl (cB, 10, .inl (fun _ => 0))), (m0, .inr (10, [.int 0, .ref qu, .ref qs, .ref qc, .ref qp, .int 0, .int (-1), .int 0, .null])), (qu, .inr (1, [.int 0, .ref (D.2 50 0), .int 0])), (qs, .inr (1, [.int 0, .ref (D.2 50 0), .int 0])), (qc, .inr (1, [.int 0, .ref (D.2 50 0), .int 0])), (qp, .inl (cM, 7, .inl fm))] H1 := hP
  have hD : va_D A [(h0, .inr (6, [.ref hu, .ref hs, .ref hc, .ref hp, .ref hg, .int 0, .int 0, .int 0, .int 0, .int 0])), (hu, .inl (cU, 10, .inr (.inr (.inr (.inr fu))))), (u0, .inr (5, [.ref ul, .int 0, .int 0, .int 45, .int 0, .int 0, .int (-1)])), (hc, .inl (cC, 4, .inr (.inr (.inr (.inr fc))))), (w0, .inr (2, [.int 100, .int (-1)])), (hp, .inl (cP, 7, .inl fp)), (hg, .inr (3, [.ref go, .ref gs, .ref ge, .ref gb, .int 0, .int 0, .int 0, .int 0])), (gs, .inl (cS, 10, .inl (fun _ => 0))), (gb, .inl (cB, 10, .inl (fun _ => 0))), (m0, .inr (10, [.int 0, .ref qu, .ref qs, .ref qc, .ref qp, .int 0, .int (-1), .int 0, .null])), (qu, .inr (1, [.int 0, .ref (D.2 50 0), .int 0])), (qs, .inr (1, [.int 0, .ref (D.2 50 0), .int 0])), (qc, .inr (1, [.int 0, .ref (D.2 50 0), .int 0])), (qp, .inl (cM, 7, .inl fm))] := hD
  have hK : va_K D vwCl [(cU, .object RX3), (cC, .object RX0), (cP, .int), (cS, .int), (cB, .int), (cM, .int)] s := hK
  clear hS1
  refine lv_astore_n (lv' := [(2, .ref m0), (1, .ref h0), (0, .ref b)]) hx hb dL_law_15 rfl hl (by decide) rfl (fun ls hl => ?_)
  refine lv_iconst (v := 1) hx hb dL_law_16 (by decide) ?_
  refine va_newa (atype := .long) (ty := .long) (N' := 1) (a0 := (1, .inr (.inl (fun _ => 0)))) hx hb (hts _ zw_271) rfl hK hP hD hS hA (fun cA => rfl) (by decide) (by decide) (by decide) (Nat.le_of_ble_eq_true rfl) (Nat.le_of_ble_eq_true rfl) dL_law_17 (fun q_5 cA_6 H hK hP hD hS => ?_)
  have hP : va_P D vwCl [(h0, .inr (6, [.ref hu, .ref hs, .ref hc, .ref hp, .ref hg, .int 0, .int 0, .int 0, .int 0, .int 0])), (hu, .inl (cU, 10, .inr (.inr (.inr (.inr fu))))), (u0, .inr (5, [.ref ul, .int 0, .int 0, .int 45, .int 0, .int 0, .int (-1)])), (hc, .inl (cC, 4, .inr (.inr (.inr (.inr fc))))), (w0, .inr (2, [.int 100, .int (-1)])), (hp, .inl (cP, 7, .inl fp)), (hg, .inr (3, [.ref go, .ref gs, .ref ge, .ref gb, .int 0, .int 0, .int 0, .int 0])), (gs, .inl (cS, 10, .inl (fun _ => 0))), (gb, .inl (cB, 10, .inl (fun _ => 0))), (m0, .inr (10, [.int 0, .ref qu, .ref qs, .ref qc, .ref qp, .int 0, .int (-1), .int 0, .null])), (qu, .inr (1, [.int 0, .ref (D.2 50 0), .int 0])), (qs, .inr (1, [.int 0, .ref (D.2 50 0), .int 0])), (qc, .inr (1, [.int 0, .ref (D.2 50 0), .int 0])), (qp, .inl (cM, 7, .inl fm)), (q_5, .inl (cA_6, 1, .inr (.inl (fun _ => 0))))] H := hP
  have hD : va_D A [(h0, .inr (6, [.ref hu, .ref hs, .ref hc, .ref hp, .ref hg, .int 0, .int 0, .int 0, .int 0, .int 0])), (hu, .inl (cU, 10, .inr (.inr (.inr (.inr fu))))), (u0, .inr (5, [.ref ul, .int 0, .int 0, .int 45, .int 0, .int 0, .int (-1)])), (hc, .inl (cC, 4, .inr (.inr (.inr (.inr fc))))), (w0, .inr (2, [.int 100, .int (-1)])), (hp, .inl (cP, 7, .inl fp)), (hg, .inr (3, [.ref go, .ref gs, .ref ge, .ref gb, .int 0, .int 0, .int 0, .int 0])), (gs, .inl (cS, 10, .inl (fun _ => 0))), (gb, .inl (cB, 10, .inl (fun _ => 0))), (m0, .inr (10, [.int 0, .ref qu, .ref qs, .ref qc, .ref qp, .int 0, .int (-1), .int 0, .null])), (qu, .inr (1, [.int 0, .ref (D.2 50 0), .int 0])), (qs, .inr (1, [.int 0, .ref (D.2 50 0), .int 0])), (qc, .inr (1, [.int 0, .ref (D.2 50 0), .int 0])), (qp, .inl (cM, 7, .inl fm)), (q_5, .inl (cA_6, 1, .inr (.inl (fun _ => 0))))] := hD
  have hK : va_K D vwCl [(cU, .object RX3), (cC, .object RX0), (cP, .int), (cS, .int), (cB, .int), (cM, .int), (cA_6, .long)] s := hK
  obtain ⟨qo, rfl⟩ : ∃ z, z = q_5 := ⟨_, rfl⟩
  obtain ⟨cJ, rfl⟩ : ∃ z, z = cA_6 := ⟨_, rfl⟩
  refine lv_astore_n (lv' := [(3, .ref qo), (2, .ref m0), (1, .ref h0), (0, .ref b)]) hx hb dL_law_19 rfl hl (by decide) rfl (fun ls hl => ?_)
  refine lv_iconst (v := 1) hx hb dL_law_20 (by decide) ?_
  refine va_newa (atype := .double) (ty := .double) (N' := 1) (a0 := (1, .inr (.inr (.inr (.inl (fun _ => 0)))))) hx hb (hts _ zw_1749) rfl hK hP hD hS hA (fun cA => rfl) (by decide) (by decide) (by decide) (Nat.le_of_ble_eq_true rfl) (Nat.le_of_ble_eq_true rfl) dL_law_21 (fun q_7 cA_8 H hK hP hD hS => ?_)
  have hP : va_P D vwCl [(h0, .inr (6, [.ref hu, .ref hs, .ref hc, .ref hp, .ref hg, .int 0, .int 0, .int 0, .int 0, .int 0])), (hu, .inl (cU, 10, .inr (.inr (.inr (.inr fu))))), (u0, .inr (5, [.ref ul, .int 0, .int 0, .int 45, .int 0, .int 0, .int (-1)])), (hc, .inl (cC, 4, .inr (.inr (.inr (.inr fc))))), (w0, .inr (2, [.int 100, .int (-1)])), (hp, .inl (cP, 7, .inl fp)), (hg, .inr (3, [.ref go, .ref gs, .ref ge, .ref gb, .int 0, .int 0, .int 0, .int 0])), (gs, .inl (cS, 10, .inl (fun _ => 0))), (gb, .inl (cB, 10, .inl (fun _ => 0))), (m0, .inr (10, [.int 0, .ref qu, .ref qs, .ref qc, .ref qp, .int 0, .int (-1), .int 0, .null])), (qu, .inr (1, [.int 0, .ref (D.2 50 0), .int 0])), (qs, .inr (1, [.int 0, .ref (D.2 50 0), .int 0])), (qc, .inr (1, [.int 0, .ref (D.2 50 0), .int 0])), (qp, .inl (cM, 7, .inl fm)), (qo, .inl (cJ, 1, .inr (.inl (fun _ => 0)))), (q_7, .inl (cA_8, 1, .inr (.inr (.inr (.inl (fun _ => 0))))))] H := hP
  have hD : va_D A [(h0, .inr (6, [.ref hu, .ref hs, .ref hc, .ref hp, .ref hg, .int 0, .int 0, .int 0, .int 0, .int 0])), (hu, .inl (cU, 10, .inr (.inr (.inr (.inr fu))))), (u0, .inr (5, [.ref ul, .int 0, .int 0, .int 45, .int 0, .int 0, .int (-1)])), (hc, .inl (cC, 4, .inr (.inr (.inr (.inr fc))))), (w0, .inr (2, [.int 100, .int (-1)])), (hp, .inl (cP, 7, .inl fp)), (hg, .inr (3, [.ref go, .ref gs, .ref ge, .ref gb, .int 0, .int 0, .int 0, .int 0])), (gs, .inl (cS, 10, .inl (fun _ => 0))), (gb, .inl (cB, 10, .inl (fun _ => 0))), (m0, .inr (10, [.int 0, .ref qu, .ref qs, .ref qc, .ref qp, .int 0, .int (-1), .int 0, .null])), (qu, .inr (1, [.int 0, .ref (D.2 50 0), .int 0])), (qs, .inr (1, [.int 0, .ref (D.2 50 0), .int 0])), (qc, .inr (1, [.int 0, .ref (D.2 50 0), .int 0])), (qp, .inl (cM, 7, .inl fm)), (qo, .inl (cJ, 1, .inr (.inl (fun _ => 0)))), (q_7, .inl (cA_8, 1, .inr (.inr (.inr (.inl (fun _ => 0))))))] := hD
  have hK : va_K D vwCl [(cU, .object RX3), (cC, .object RX0), (cP, .int), (cS, .int), (cB, .int), (cM, .int), (cJ, .long), (cA_8, .double)] s := hK
  obtain ⟨qd, rfl⟩ : ∃ z, z = q_7 := ⟨_, rfl⟩
  obtain ⟨cD, rfl⟩ : ∃ z, z = cA_8 := ⟨_, rfl⟩
  refine lv_astore (lv' := [(4, .ref qd), (3, .ref qo), (2, .ref m0), (1, .ref h0), (0, .ref b)]) hx hb dL_law_23 hl (by decide) rfl (fun ls hl => ?_)
  refine lv_iconst (v := 0) hx hb dL_law_25 (by decide) ?_
  refine lv_istore (lv' := [(5, .int 0), (4, .ref qd), (3, .ref qo), (2, .ref m0), (1, .ref h0), (0, .ref b)]) hx hb dL_law_26 hl (by decide) rfl (fun ls hl => ?_)
  refine lv_iload hx hb dL_law_28 (lv_at hl 0 rfl) ?_
  refine lv_aload_n hx hb dL_law_30 rfl (lv_at hl 5 rfl) ?_
  refine va_slen hx hb hXs hbl hbA hS dL_law_31 ?_
  refine lv_topi (fun xL exL => ?_)
  refine lv_bipush (v := 7) hx hb dL_law_32 (by decide) ?_
  refine lv_isub hx hb dL_law_34 ?_
  refine lv_topi (fun x_9 ex_9 => ?_)
  rcases Nat.lt_or_ge L 7 with hL6 | hL6
  · refine lv_icmp_gt (tgt := 2669) hx hb dL_law_35 (by decide) (fun c_10 => ?_) (fun c_10 => absurd (by rw [ex_9, exL]; exact z_l7 L hL6) c_10)
    refine lv_iconst (v := 1) hx hb dL_law_2669 (by decide) ?_
    refine va_forget (fun q hq => hAF _ (hS.2.2 q hq)) ?_
    refine W.widen (k := 747229) (n := 6860549) (Nat.le_of_ble_eq_true rfl) (Nat.le_of_ble_eq_true rfl) ?_
    exact lw_ret (d0 := s.drawn) (Drawn.sameBut.refl s.drawn lw_cs) hx hb hr hlocks dL_law_2670
  · have hL7 : L = 7 := Nat.le_antisymm hL hL6
    refine lv_icmp_gt (tgt := 2669) hx hb dL_law_35 (by decide) (fun c_10 => absurd c_10 (by rw [ex_9, exL, hL7]; decide)) (fun c_10 => ?_)
    refine lv_aload_n hx hb dL_law_38 rfl (lv_at hl 5 rfl) ?_
    refine lv_iload hx hb dL_law_39 (lv_at hl 0 rfl) ?_
    refine va_sld (i := 0) hx hb hXs hbl hbA hS (by rw [hL7]; unfold vp_in; decide) dL_law_41 ?_
    refine lv_topi (fun a_11 ea_11 => ?_)
    refine lv_bipush (v := 63) hx hb dL_law_42 (by decide) ?_
    refine lv_iand hx hb dL_law_44 ?_
    refine lv_topi (fun x_12 ex_12 => ?_)
    obtain ⟨j, hj, hje⟩ := pk_andE a_11 6 (m := 63) (by decide)
    obtain rfl : x_12 = nI j := ex_12.trans hje
    refine W.widen (k := 62) (n := 437) (Nat.le_of_ble_eq_true rfl) (Nat.le_of_ble_eq_true rfl) ?_
    have hP := hP.sub (ws' := [(h0, .inr (6, [.ref hu, .ref hs, .ref hc, .ref hp, .ref hg, .int 0, .int 0, .int 0, .int 0, .int 0])), (hu, .inl (cU, 10, .inr (.inr (.inr (.inr fu))))), (u0, .inr (5, [.ref ul, .int 0, .int 0, .int 45, .int 0, .int 0, .int (-1)])), (hc, .inl (cC, 4, .inr (.inr (.inr (.inr fc))))), (w0, .inr (2, [.int 100, .int (-1)])), (hp, .inl (cP, 7, .inl fp)), (hg, .inr (3, [.ref go, .ref gs, .ref ge, .ref gb, .int 0, .int 0, .int 0, .int 0])), (gs, .inl (cS, 10, .inl (fun _ => 0))), (gb, .inl (cB, 10, .inl (fun _ => 0))), (m0, .inr (10, [.int 0, .ref qu, .ref qs, .ref qc, .ref qp, .int 0, .int (-1), .int 0, .null])), (qu, .inr (1, [.int 0, .ref (D.2 50 0), .int 0])), (qs, .inr (1, [.int 0, .ref (D.2 50 0), .int 0])), (qc, .inr (1, [.int 0, .ref (D.2 50 0), .int 0])), (qp, .inl (cM, 7, .inl fm)), (qo, .inl (cJ, 1, .inr (.inl (fun _ => 0)))), (qd, .inl (cD, 1, .inr (.inr (.inr (.inl (fun _ => 0))))))]) [0, 1, 2, 3, 4, 5, 6, 7, 8, 9, 10, 11, 12, 13, 14, 15] rfl
    have hD := hD.sub (ws' := [(h0, .inr (6, [.ref hu, .ref hs, .ref hc, .ref hp, .ref hg, .int 0, .int 0, .int 0, .int 0, .int 0])), (hu, .inl (cU, 10, .inr (.inr (.inr (.inr fu))))), (u0, .inr (5, [.ref ul, .int 0, .int 0, .int 45, .int 0, .int 0, .int (-1)])), (hc, .inl (cC, 4, .inr (.inr (.inr (.inr fc))))), (w0, .inr (2, [.int 100, .int (-1)])), (hp, .inl (cP, 7, .inl fp)), (hg, .inr (3, [.ref go, .ref gs, .ref ge, .ref gb, .int 0, .int 0, .int 0, .int 0])), (gs, .inl (cS, 10, .inl (fun _ => 0))), (gb, .inl (cB, 10, .inl (fun _ => 0))), (m0, .inr (10, [.int 0, .ref qu, .ref qs, .ref qc, .ref qp, .int 0, .int (-1), .int 0, .null])), (qu, .inr (1, [.int 0, .ref (D.2 50 0), .int 0])), (qs, .inr (1, [.int 0, .ref (D.2 50 0), .int 0])), (qc, .inr (1, [.int 0, .ref (D.2 50 0), .int 0])), (qp, .inl (cM, 7, .inl fm)), (qo, .inl (cJ, 1, .inr (.inl (fun _ => 0)))), (qd, .inl (cD, 1, .inr (.inr (.inr (.inl (fun _ => 0))))))]) [0, 1, 2, 3, 4, 5, 6, 7, 8, 9, 10, 11, 12, 13, 14, 15] rfl rfl
    have hK := hK.sub (tys' := [(cU, .object RX3), (cC, .object RX0), (cP, .int), (cS, .int), (cB, .int), (cM, .int), (cJ, .long), (cD, .double)]) [0, 1, 2, 3, 4, 5, 6, 7] rfl
    have hl := lv_sub (l' := [(5, .int 0), (4, .ref qd), (3, .ref qo), (2, .ref m0), (1, .ref h0), (0, .ref b)]) hl [0, 1, 2, 3, 4, 5] rfl
    rcases (show j = 0 ∨ j = 1 ∨ j = 2 ∨ j = 3 ∨ j = 4 ∨ j = 5 ∨ j = 6 ∨ j = 7 ∨ j = 8 ∨ j = 9 ∨ j = 10 ∨ j = 11 ∨ j = 12 ∨ j = 13 ∨ j = 14 ∨ j = 15 ∨ j = 16 ∨ j = 17 ∨ j = 18 ∨ j = 19 ∨ j = 20 ∨ j = 21 ∨ j = 22 ∨ j = 23 ∨ j = 24 ∨ j = 25 ∨ j = 26 ∨ j = 27 ∨ j = 28 ∨ j = 29 ∨ j = 30 ∨ j = 31 ∨ j = 32 ∨ j = 33 ∨ j = 34 ∨ j = 35 ∨ j = 36 ∨ j = 37 ∨ j = 38 ∨ j = 39 ∨ j = 40 ∨ j = 41 ∨ j = 42 ∨ 43 ≤ j by omega) with rfl | rfl | rfl | rfl | rfl | rfl | rfl | rfl | rfl | rfl | rfl | rfl | rfl | rfl | rfl | rfl | rfl | rfl | rfl | rfl | rfl | rfl | rfl | rfl | rfl | rfl | rfl | rfl | rfl | rfl | rfl | rfl | rfl | rfl | rfl | rfl | rfl | rfl | rfl | rfl | rfl | rfl | rfl | hj43
    · refine lv_tableIn (off := 187) (tgt := 232) hx hb dL_law_45 (by decide) (by decide) rfl (by decide) ?_
      exact law_0 C0 hL7 hst hE hX hA hbA hAF hfu hfc hfp hfm hK hP hD hS hl
    · refine lv_tableIn (off := 243) (tgt := 288) hx hb dL_law_45 (by decide) (by decide) rfl (by decide) ?_
      exact law_1 C0 hL7 hst hE hX hA hbA hAF hfu hfc hfp hfm hK hP hD hS hl
    · refine lv_tableIn (off := 311) (tgt := 356) hx hb dL_law_45 (by decide) (by decide) rfl (by decide) ?_
      exact law_2 C0 hL7 hst hE hX hA hbA hAF hfu hfc hfp hfm hK hP hD hS hl
    · refine lv_tableIn (off := 379) (tgt := 424) hx hb dL_law_45 (by decide) (by decide) rfl (by decide) ?_
      exact law_3 C0 hL7 hst hE hX hA hbA hAF hfu hfc hfp hfm hK hP hD hS hl
    · refine lv_tableIn (off := 454) (tgt := 499) hx hb dL_law_45 (by decide) (by decide) rfl (by decide) ?_
      exact law_4 C0 hL7 hst hE hX hA hbA hAF hfu hfc hfp hfm hK hP hD hS hl
    · refine lv_tableIn (off := 522) (tgt := 567) hx hb dL_law_45 (by decide) (by decide) rfl (by decide) ?_
      exact law_5 C0 hL7 hst hE hX hA hbA hAF hfu hfc hfp hfm hK hP hD hS hl
    · refine lv_tableIn (off := 578) (tgt := 623) hx hb dL_law_45 (by decide) (by decide) rfl (by decide) ?_
      exact law_6 C0 hL7 hst hE hX hA hbA hAF hfu hfc hfp hfm hK hP hD hS hl
    · refine lv_tableIn (off := 634) (tgt := 679) hx hb dL_law_45 (by decide) (by decide) rfl (by decide) ?_
      exact law_7 C0 hL7 hst hE hX hA hbA hAF hfu hfc hfp hfm hK hP hD hS hl
    · refine lv_tableIn (off := 690) (tgt := 735) hx hb dL_law_45 (by decide) (by decide) rfl (by decide) ?_
      exact law_8 C0 hL7 hst hE hX hA hbA hAF hfu hfc hfp hfm hK hP hD hS hl
    · refine lv_tableIn (off := 746) (tgt := 791) hx hb dL_law_45 (by decide) (by decide) rfl (by decide) ?_
      exact law_9 C0 hL7 hst hE hX hA hbA hAF hfu hfc hfp hfm hK hP hD hS hl
    · refine lv_tableIn (off := 814) (tgt := 859) hx hb dL_law_45 (by decide) (by decide) rfl (by decide) ?_
      exact law_10 C0 hL7 hst hE hX hA hbA hAF hfu hfc hfp hfm hK hP hD hS hl
    · refine lv_tableIn (off := 948) (tgt := 993) hx hb dL_law_45 (by decide) (by decide) rfl (by decide) ?_
      exact law_11 C0 hL7 hst hE hX hA hbA hAF hfu hfc hfp hfm hK hP hD hS hl
    · refine lv_tableIn (off := 1004) (tgt := 1049) hx hb dL_law_45 (by decide) (by decide) rfl (by decide) ?_
      exact law_12 C0 hL7 hst hE hX hA hbA hAF hfu hfc hfp hfm hK hP hD hS hl
    · refine lv_tableIn (off := 1060) (tgt := 1105) hx hb dL_law_45 (by decide) (by decide) rfl (by decide) ?_
      exact law_13 C0 hL7 hst hE hX hA hbA hAF hfu hfc hfp hfm hK hP hD hS hl
    · refine lv_tableIn (off := 1116) (tgt := 1161) hx hb dL_law_45 (by decide) (by decide) rfl (by decide) ?_
      exact law_14 C0 hL7 hst hE hX hA hbA hAF hfu hfc hfp hfm hK hP hD hS hl
    · refine lv_tableIn (off := 1184) (tgt := 1229) hx hb dL_law_45 (by decide) (by decide) rfl (by decide) ?_
      exact law_15 C0 hL7 hst hE hX hA hbA hAF hfu hfc hfp hfm hK hP hD hS hl
    · refine lv_tableIn (off := 1240) (tgt := 1285) hx hb dL_law_45 (by decide) (by decide) rfl (by decide) ?_
      exact law_16 C0 hL7 hst hE hX hA hbA hAF hfu hfc hfp hfm hK hP hD hS hl
    · refine lv_tableIn (off := 1296) (tgt := 1341) hx hb dL_law_45 (by decide) (by decide) rfl (by decide) ?_
      exact law_17 C0 hL7 hst hE hX hA hbA hAF hfu hfc hfp hfm hK hP hD hS hl
    · refine lv_tableIn (off := 1359) (tgt := 1404) hx hb dL_law_45 (by decide) (by decide) rfl (by decide) ?_
      exact law_18 C0 hL7 hst hE hX hA hbA hAF hfu hfc hfp hfm hK hP hD hS hl
    · refine lv_tableIn (off := 1415) (tgt := 1460) hx hb dL_law_45 (by decide) (by decide) rfl (by decide) ?_
      exact law_19 C0 hL7 hst hE hX hA hbA hAF hfu hfc hfp hfm hK hP hD hS hl
    · refine lv_tableIn (off := 1471) (tgt := 1516) hx hb dL_law_45 (by decide) (by decide) rfl (by decide) ?_
      exact law_20 C0 hL7 hst hE hX hA hbA hAF hfu hfc hfp hfm hK hP hD hS hl
    · refine lv_tableIn (off := 1527) (tgt := 1572) hx hb dL_law_45 (by decide) (by decide) rfl (by decide) ?_
      exact law_21 C0 hL7 hst hE hX hA hbA hAF hfu hfc hfp hfm hK hP hD hS hl
    · refine lv_tableIn (off := 1590) (tgt := 1635) hx hb dL_law_45 (by decide) (by decide) rfl (by decide) ?_
      exact law_22 C0 hL7 hst hE hX hA hbA hAF hfu hfc hfp hfm hK hP hD hS hl
    · refine lv_tableIn (off := 1646) (tgt := 1691) hx hb dL_law_45 (by decide) (by decide) rfl (by decide) ?_
      exact law_23 C0 hL7 hst hE hX hA hbA hAF hfu hfc hfp hfm hK hP hD hS hl
    · refine lv_tableIn (off := 1702) (tgt := 1747) hx hb dL_law_45 (by decide) (by decide) rfl (by decide) ?_
      exact law_24 C0 hL7 hst hE hX hA hbA hAF hfu hfc hfp hfm hK hP hD hS hl
    · refine lv_tableIn (off := 1715) (tgt := 1760) hx hb dL_law_45 (by decide) (by decide) rfl (by decide) ?_
      exact law_25 C0 hL7 hst hE hX hA hbA hAF hfu hfc hfp hfm hK hP hD hS hl
    · refine lv_tableIn (off := 1783) (tgt := 1828) hx hb dL_law_45 (by decide) (by decide) rfl (by decide) ?_
      exact law_26 C0 hL7 hst hE hX hA hbA hAF hfu hfc hfp hfm hK hP hD hS hl
    · refine lv_tableIn (off := 1839) (tgt := 1884) hx hb dL_law_45 (by decide) (by decide) rfl (by decide) ?_
      exact law_27 C0 hL7 hst hE hX hA hbA hAF hfu hfc hfp hfm hK hP hD hS hl
    · refine lv_tableIn (off := 1852) (tgt := 1897) hx hb dL_law_45 (by decide) (by decide) rfl (by decide) ?_
      exact law_28 C0 hL7 hst hE hX hA hbA hAF hfu hfc hfp hfm hK hP hD hS hl
    · refine lv_tableIn (off := 1910) (tgt := 1955) hx hb dL_law_45 (by decide) (by decide) rfl (by decide) ?_
      exact law_29 C0 hL7 hst hE hX hA hbA hAF hfu hfc hfp hfm hK hP hD hS hl
    · refine lv_tableIn (off := 1978) (tgt := 2023) hx hb dL_law_45 (by decide) (by decide) rfl (by decide) ?_
      exact law_30 C0 hL7 hst hE hX hA hbA hAF hfu hfc hfp hfm hK hP hD hS hl
    · refine lv_tableIn (off := 2041) (tgt := 2086) hx hb dL_law_45 (by decide) (by decide) rfl (by decide) ?_
      exact law_31 C0 hL7 hst hE hX hA hbA hAF hfu hfc hfp hfm hK hP hD hS hl
    · refine lv_tableIn (off := 2097) (tgt := 2142) hx hb dL_law_45 (by decide) (by decide) rfl (by decide) ?_
      exact law_32 C0 hL7 hst hE hX hA hbA hAF hfu hfc hfp hfm hK hP hD hS hl
    · refine lv_tableIn (off := 2167) (tgt := 2212) hx hb dL_law_45 (by decide) (by decide) rfl (by decide) ?_
      exact law_33 C0 hL7 hst hE hX hA hbA hAF hfu hfc hfp hfm hK hP hD hS hl
    · refine lv_tableIn (off := 2211) (tgt := 2256) hx hb dL_law_45 (by decide) (by decide) rfl (by decide) ?_
      exact law_34 C0 hL7 hst hE hX hA hbA hAF hfu hfc hfp hfm hK hP hD hS hl
    · refine lv_tableIn (off := 2267) (tgt := 2312) hx hb dL_law_45 (by decide) (by decide) rfl (by decide) ?_
      exact law_35 C0 hL7 hst hE hX hA hbA hAF hfu hfc hfp hfm hK hP hD hS hl
    · refine lv_tableIn (off := 2322) (tgt := 2367) hx hb dL_law_45 (by decide) (by decide) rfl (by decide) ?_
      exact law_36 C0 hL7 hst hE hX hA hbA hAF hfu hfc hfp hfm hK hP hD hS hl
    · refine lv_tableIn (off := 2391) (tgt := 2436) hx hb dL_law_45 (by decide) (by decide) rfl (by decide) ?_
      exact law_37 C0 hL7 hst hE hX hA hbA hAF hfu hfc hfp hfm hK hP hD hS hl
    · refine lv_tableIn (off := 2446) (tgt := 2491) hx hb dL_law_45 (by decide) (by decide) rfl (by decide) ?_
      exact law_38 C0 hL7 hst hE hX hA hbA hAF hfu hfc hfp hfm hK hP hD hS hl
    · refine lv_tableIn (off := 2460) (tgt := 2505) hx hb dL_law_45 (by decide) (by decide) rfl (by decide) ?_
      exact law_39 C0 hL7 hst hE hX hA hbA hAF hfu hfc hfp hfm hK hP hD hS hl
    · refine lv_tableIn (off := 2474) (tgt := 2519) hx hb dL_law_45 (by decide) (by decide) rfl (by decide) ?_
      exact law_40 C0 hL7 hst hE hX hA hbA hAF hfu hfc hfp hfm hK hP hD hS hl
    · refine lv_tableIn (off := 2540) (tgt := 2585) hx hb dL_law_45 (by decide) (by decide) rfl (by decide) ?_
      exact law_41 C0 hL7 hst hE hX hA hbA hAF hfu hfc hfp hfm hK hP hD hS hl
    · refine lv_tableIn (off := 2605) (tgt := 2650) hx hb dL_law_45 (by decide) (by decide) rfl (by decide) ?_
      exact law_42 C0 hL7 hst hE hX hA hbA hAF hfu hfc hfp hfm hK hP hD hS hl
    · refine lv_tableOut (tgt := 2663) hx hb dL_law_45 (Or.inr (by rw [nI_toInt (by omega)]; omega)) (by decide) ?_
      exact law_end C0 hL7 hAF hbA hS (lv_sub (l' := [(5, .int 0), (0, .ref b)]) hl [0, 5] rfl) (Nat.le_of_ble_eq_true rfl) (Nat.le_of_ble_eq_true rfl)
