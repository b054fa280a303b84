theorem z_sm {a : Int32} {hi64 : Int64} {lo hi : Nat} (hl : hi < 2 ^ 30) (h2 : hi64.toInt = (hi : Int)) {lo64 : Int64} (h1 : lo64.toInt = (lo : Int)) (h : lo64 ≤ a.toInt64 ∧ a.toInt64 ≤ hi64) : ∃ k : Nat, lo ≤ k ∧ k ≤ hi ∧ a = nI k := by
  rw [Int64.le_iff_toInt_le, Int64.le_iff_toInt_le, Int32.toInt_toInt64, h1, h2] at h
  refine ⟨a.toInt.toNat, by omega, by omega, ?_⟩
  apply Int32.toInt_inj.mp
  rw [nI_toInt (by omega)]
  omega
theorem z_strikeN : ∀ k : Nat, k < 31 → 1 ≤ k → (if (-1 : Int32) < 0 + nI k - 1 then 0 + nI k - 1 else -1) - 0 + 1 = nI k := by decide +kernel
theorem dX8_strike_0 : decode cX8_strike 0 = .ok (.aload_n 0, 1) := by decide +kernel
theorem dX8_strike_1 : decode cX8_strike 1 = .ok (.iload_n 1, 1) := by decide +kernel
theorem dX8_strike_2 : decode cX8_strike 2 = .ok (.i2l, 1) := by decide +kernel
theorem dX8_strike_3 : decode cX8_strike 3 = .ok (.lconst 1, 1) := by decide +kernel
theorem dX8_strike_4 : decode cX8_strike 4 = .ok (.ldc2_w 136, 3) := by decide +kernel
theorem zw_1379 : Cond.constantLong RX8 136 30 ∈ z_Ts := z_m 1379 (by decide +kernel) (by decide +kernel)
theorem dX8_strike_7 : decode cX8_strike 7 = .ok (.invokestatic 37, 3) := by decide +kernel
theorem dX8_strike_10 : decode cX8_strike 10 = .ok (.ifCond .eq 7, 3) := by decide +kernel
theorem dX8_strike_13 : decode cX8_strike 13 = .ok (.iconst 0, 1) := by decide +kernel
theorem dX8_strike_14 : decode cX8_strike 14 = .ok (.goto 4, 3) := by decide +kernel
theorem dX8_strike_18 : decode cX8_strike 18 = .ok (.putfield 30, 3) := by decide +kernel
theorem dX8_strike_21 : decode cX8_strike 21 = .ok (.aload_n 0, 1) := by decide +kernel
theorem dX8_strike_22 : decode cX8_strike 22 = .ok (.getfield 30, 3) := by decide +kernel
theorem dX8_strike_25 : decode cX8_strike 25 = .ok (.ifCond .le 5, 3) := by decide +kernel
theorem dX8_strike_30 : decode cX8_strike 30 = .ok (.aload_n 0, 1) := by decide +kernel
theorem dX8_strike_31 : decode cX8_strike 31 = .ok (.aload_n 0, 1) := by decide +kernel
theorem dX8_strike_32 : decode cX8_strike 32 = .ok (.getfield 26, 3) := by decide +kernel
theorem dX8_strike_35 : decode cX8_strike 35 = .ok (.aload_n 0, 1) := by decide +kernel
theorem dX8_strike_36 : decode cX8_strike 36 = .ok (.getfield 105, 3) := by decide +kernel
theorem dX8_strike_39 : decode cX8_strike 39 = .ok (.iload_n 1, 1) := by decide +kernel
theorem dX8_strike_40 : decode cX8_strike 40 = .ok (.iadd, 1) := by decide +kernel
theorem dX8_strike_41 : decode cX8_strike 41 = .ok (.iconst 1, 1) := by decide +kernel
theorem dX8_strike_42 : decode cX8_strike 42 = .ok (.isub, 1) := by decide +kernel
theorem dX8_strike_43 : decode cX8_strike 43 = .ok (.invokestatic 223, 3) := by decide +kernel
theorem zw_775 : Cond.code Lib.Math.max.name Lib.Math.max.code 2 (some .int) ∈ z_Ts := z_m 775 (by decide +kernel) (by decide +kernel)
theorem zw_1547 : Cond.methodLink RX8 223 yJ9_max_7cf53 ∈ z_Ts := z_m 1547 (by decide +kernel) (by decide +kernel)
theorem zw_774 : Cond.static yJ9_max_7cf53 ∈ z_Ts := z_m 774 (by decide +kernel) (by decide +kernel)
theorem zw_108 : Cond.initialized RJ9 ∈ z_Ts := z_m 108 (by decide +kernel) (by decide +kernel)
theorem dX8_strike_46 : decode cX8_strike 46 = .ok (.putfield 26, 3) := by decide +kernel
theorem dX8_strike_49 : decode cX8_strike 49 = .ok (.aload_n 0, 1) := by decide +kernel
theorem dX8_strike_50 : decode cX8_strike 50 = .ok (.getfield 26, 3) := by decide +kernel
theorem dX8_strike_53 : decode cX8_strike 53 = .ok (.aload_n 0, 1) := by decide +kernel
theorem dX8_strike_54 : decode cX8_strike 54 = .ok (.getfield 105, 3) := by decide +kernel
theorem dX8_strike_57 : decode cX8_strike 57 = .ok (.isub, 1) := by decide +kernel
theorem dX8_strike_58 : decode cX8_strike 58 = .ok (.iconst 1, 1) := by decide +kernel
theorem dX8_strike_59 : decode cX8_strike 59 = .ok (.iadd, 1) := by decide +kernel
theorem dX8_strike_60 : decode cX8_strike 60 = .ok (.ireturn, 1) := by decide +kernel
theorem dX8_strike_17 : decode cX8_strike 17 = .ok (.iconst 1, 1) := by decide +kernel
theorem dX8_strike_28 : decode cX8_strike 28 = .ok (.iconst 0, 1) := by decide +kernel
theorem dX8_strike_29 : decode cX8_strike 29 = .ok (.ireturn, 1) := by decide +kernel
set_option maxHeartbeats 4000000 in
set_option maxRecDepth 100000 in
theorem g_X8_strike (l : Launch) (D : va_G) (m0 : Nat) (qu : Nat) (qs : Nat) (qc : Nat) (qp : Nat) (th : Int32) (a0 : Int32) (sz : Nat)  : Met l yX8_strike [Cond.code yX8_strike cX8_strike 2 (some .int)] ({ frames := 1, cells := 0, slots := 0, locals := 60 }) (z_Pc D [.ref m0, .int a0] [(m0, .inr (10, [.int th, .ref qu, .ref qs, .ref qc, .ref qp, .int 0, .int (-1), .int 0, .null]))] [] sz) (va_Qi (fun (r : Int32) (_ : Unit) => (1 ≤ a0.toInt64 ∧ a0.toInt64 ≤ 30) → r = a0) (fun _ t => ∃ t1 : Int32, ∃ t2 : Int32, t1 = (if (1 ≤ a0.toInt64 ∧ a0.toInt64 ≤ 30) then 0 else 1) ∧ z_W D [(m0, .inr (10, [.int t1, .ref qu, .ref qs, .ref qc, .ref qp, .int 0, .int t2, .int 0, .null]))] [] (va_A [(m0, .inr (10, [.int th, .ref qu, .ref qs, .ref qc, .ref qp, .int 0, .int (-1), .int 0, .null]))] sz) t) (va_A [(m0, .inr (10, [.int th, .ref qu, .ref qs, .ref qc, .ref qp, .int 0, .int (-1), .int 0, .null]))] sz)) 0 0 (va_A [(m0, .inr (10, [.int th, .ref qu, .ref qs, .ref qc, .ref qp, .int 0, .int (-1), .int 0, .null]))] sz) := by
  refine Met.ofW (cc := cX8_strike) (maxL := 2) (ret := (some .int)) (by decide +kernel) rfl ?_
  intro p e s m args below meth c s₁ B hml hv
  obtain ⟨rfl, hsz, hP, hK, hD0, hE, hX0⟩ := hv
  have hx := B.exec
  have hb := B.bytes
  have hr := B.returns
  have hts := z_E.ts (args := [.ref m0, .int a0].toArray) hE
  have hown : s.vm.findClass RX8 = some m.cls := findClass_of_methodNamed B.named
  have hlocks := B.notSynchronized
  subst hsz
  have hD := hD0.self (sz := s.heap.size)
  generalize hAe : va_A [(m0, .inr (10, [.int th, .ref qu, .ref qs, .ref qc, .ref qp, .int 0, .int (-1), .int 0, .null]))] s.heap.size = A at hD hX0 ⊢
  have hX : z_X D A s s.heap := hX0
  have hA : ∀ q : Nat, s.heap.size ≤ q → A q := fun q h => by rw [← hAe]; exact Or.inr h
  have hS : va_S A s.heap s.heap [] := va_S.rf
  have hP : va_P D vwCl [(m0, .inr (10, [.int th, .ref qu, .ref qs, .ref qc, .ref qp, .int 0, .int (-1), .int 0, .null]))] s.heap := hP
  have hl := lv_entry ([.ref m0, .int a0]) (n := 2) (Nat.le_of_ble_eq_true rfl)
  rw [lg_entry_eq]
  generalize (lg_sl ([.ref m0, .int a0]) ++ List.replicate (2 - (lg_sl ([.ref m0, .int a0])).length) Slot.unset).toArray = ls at hl ⊢
  have hl : lv_has ls 2 [(0, .ref m0), (1, .int a0)] := hl
  skip
  refine lv_aload_n hx hb dX8_strike_0 rfl (lv_at hl 0 rfl) ?_
  refine lv_iload_n hx hb dX8_strike_1 rfl (lv_at hl 1 rfl) ?_
  refine lv_i2l hx hb dX8_strike_2 rfl ?_
  refine lv_lconst (v := 1) hx hb dX8_strike_3 (by decide) ?_
  refine lv_ldc2 hx hb hown (hts _ zw_1379) dX8_strike_4 ?_
  obtain ⟨hb_1, hc_1⟩ := z_call (wc := []) (tc := []) ([.long (a0).toInt64, .long 1, .long 30]) hP hK hD hS hA hE hX [] rfl rfl [] rfl
  have hF_1 := va_free (wc := []) hD hS hA [] rfl
  refine va_calli (va_runS (As := [.long (a0).toInt64, .long 1, .long 30]) (rest := [.ref m0]) ⟨hx, hb, hml, hown, hts⟩ (c_X8_in l D ((a0).toInt64) 1 30 _ ) (⟨z_cB 3 hE zw_1118 zw_96 zw_1120 rfl rfl rfl (by decide +kernel) ⟨(Nat.le_of_ble_eq_true rfl), (Nat.le_of_ble_eq_true rfl)⟩, hE.ts _ zw_1119⟩) ⟨hb_1, hc_1⟩ rfl rfl hl.1 rfl (lv_room (Nat.le_of_ble_eq_true rfl)) dX8_strike_7 ⟨(Nat.le_of_ble_eq_true rfl), (Nat.le_of_ble_eq_true rfl)⟩) hS (fun q _ h => hF_1 q h) hF_1 (fun r_1 u_1 t_1 H1 locs ht_1 hvm_1 hw_1 hB_1 hz_1 hk_1 hS1 => ?_)
  obtain ⟨hP, hK, hD⟩ := z_back (wc := []) (wr := [(m0, .inr (10, [.int th, .ref qu, .ref qs, .ref qc, .ref qp, .int 0, .int (-1), .int 0, .null]))]) (w1 := []) (tr := []) hP hK hD [] [0] rfl rfl rfl (by decide) ht_1 hvm_1 hk_1 hF_1 [] rfl hB_1
  have hS := hS1
  have hP : va_P D vwCl [(m0, .inr (10, [.int th, .ref qu, .ref qs, .ref qc, .ref qp, .int 0, .int (-1), .int 0, .null]))] H1 := hP
  have hD : va_D A [(m0, .inr (10, [.int th, .ref qu, .ref qs, .ref qc, .ref qp, .int 0, .int (-1), .int 0, .null]))] := hD
  have hK : va_K D vwCl [] s := hK
  clear hS1
  rcases hw_1 with ⟨rfl, g1⟩ | ⟨rfl, g1⟩
  · refine lv_if_eq (tgt := 17) hx hb dX8_strike_10 (by decide) (fun c_2 => absurd c_2 (by decide)) (fun c_2 => ?_)
    refine lv_iconst (v := 0) hx hb dX8_strike_13 (by decide) ?_
    refine lv_goto (tgt := 18) hx hb dX8_strike_14 (by decide) ?_
    refine va_put (D := D) (ci := 10) (v := .int 0) (ty := .int) (C := RX8) (T := TX8) (N := 9) hx hb hts zin_X8 tyX8 tyX8_ok nmX8 hown hK hP hD hS 0 rfl rfl 0 (by decide) (hts _ zw_1080) (fun _ h9 => h9) rfl (by decide +kernel) rfl rfl (Nat.le_of_ble_eq_true rfl) dX8_strike_18 (fun H locs hP hD hS => ?_)
    have hP : va_P D vwCl [(m0, .inr (10, [.int 0, .ref qu, .ref qs, .ref qc, .ref qp, .int 0, .int (-1), .int 0, .null]))] H := hP
    have hD : va_D A [(m0, .inr (10, [.int 0, .ref qu, .ref qs, .ref qc, .ref qp, .int 0, .int (-1), .int 0, .null]))] := hD
    refine lv_aload_n hx hb dX8_strike_21 rfl (lv_at hl 0 rfl) ?_
    refine va_get (D := D) (ci := 10) (v := .int 0) (C := RX8) (T := TX8) (N := 9) hx hb hts zin_X8 hown hK hP 0 rfl rfl 0 (by decide) (hts _ zw_1080) (fun _ h9 => h9) rfl dX8_strike_22 ?_
    refine lv_if_le (tgt := 30) hx hb dX8_strike_25 (by decide) (fun c_3 => ?_) (fun c_3 => absurd (by decide) c_3)
    refine lv_aload_n hx hb dX8_strike_30 rfl (lv_at hl 0 rfl) ?_
    refine lv_aload_n hx hb dX8_strike_31 rfl (lv_at hl 0 rfl) ?_
    refine va_get (D := D) (ci := 10) (v := .int (-1)) (C := RX8) (T := TX8) (N := 9) hx hb hts zin_X8 hown hK hP 0 rfl rfl 6 (by decide) (hts _ zw_1086) (fun _ h9 => h9) rfl dX8_strike_32 ?_
    refine lv_aload_n hx hb dX8_strike_35 rfl (lv_at hl 0 rfl) ?_
    refine va_get (D := D) (ci := 10) (v := .int 0) (C := RX8) (T := TX8) (N := 9) hx hb hts zin_X8 hown hK hP 0 rfl rfl 5 (by decide) (hts _ zw_1085) (fun _ h9 => h9) rfl dX8_strike_36 ?_
    refine lv_iload_n hx hb dX8_strike_39 rfl (lv_at hl 1 rfl) ?_
    refine lv_iadd hx hb dX8_strike_40 ?_
    refine lv_topi (fun x_4 ex_4 => ?_)
    refine lv_iconst (v := 1) hx hb dX8_strike_41 (by decide) ?_
    refine lv_isub hx hb dX8_strike_42 ?_
    refine lv_topi (fun x_5 ex_5 => ?_)
    refine va_mmax hx hb (hml.trans hl.1.symm) hown (hts _ zw_1547) (hts _ zw_774) (hts _ zw_108) (hts _ zw_775) (Nat.le_of_ble_eq_true rfl) (Nat.le_of_ble_eq_true rfl) (Nat.le_of_ble_eq_true rfl) (Nat.le_of_ble_eq_true rfl) dX8_strike_43 ?_
    refine lv_topi (fun x_6 ex_6 => ?_)
    refine va_put (D := D) (ci := 10) (v := .int x_6) (ty := .int) (C := RX8) (T := TX8) (N := 9) hx hb hts zin_X8 tyX8 tyX8_ok nmX8 hown hK hP hD hS 0 rfl rfl 6 (by decide) (hts _ zw_1086) (fun _ h9 => h9) rfl (by decide +kernel) rfl rfl (Nat.le_of_ble_eq_true rfl) dX8_strike_46 (fun H locs hP hD hS => ?_)
    have hP : va_P D vwCl [(m0, .inr (10, [.int 0, .ref qu, .ref qs, .ref qc, .ref qp, .int 0, .int x_6, .int 0, .null]))] H := hP
    have hD : va_D A [(m0, .inr (10, [.int 0, .ref qu, .ref qs, .ref qc, .ref qp, .int 0, .int x_6, .int 0, .null]))] := hD
    refine lv_aload_n hx hb dX8_strike_49 rfl (lv_at hl 0 rfl) ?_
    refine va_get (D := D) (ci := 10) (v := .int x_6) (C := RX8) (T := TX8) (N := 9) hx hb hts zin_X8 hown hK hP 0 rfl rfl 6 (by decide) (hts _ zw_1086) (fun _ h9 => h9) rfl dX8_strike_50 ?_
    refine lv_aload_n hx hb dX8_strike_53 rfl (lv_at hl 0 rfl) ?_
    refine va_get (D := D) (ci := 10) (v := .int 0) (C := RX8) (T := TX8) (N := 9) hx hb hts zin_X8 hown hK hP 0 rfl rfl 5 (by decide) (hts _ zw_1085) (fun _ h9 => h9) rfl dX8_strike_54 ?_
    refine lv_isub hx hb dX8_strike_57 ?_
    refine lv_topi (fun x_7 ex_7 => ?_)
    refine lv_iconst (v := 1) hx hb dX8_strike_58 (by decide) ?_
    refine lv_iadd hx hb dX8_strike_59 ?_
    refine lv_topi (fun x_8 ex_8 => ?_)
    have hfin : x_8 = a0 := by
      obtain ⟨k, k1, k2, rfl⟩ := z_sm (lo := 1) (hi := 30) (by decide) (by decide) (by decide) g1
      have h9 := z_strikeN k (by omega) k1
      rw [ex_8, ex_7, ex_6, ex_5, ex_4]
      exact h9
    exact W.iret (v := x_8) hx hb hr (fun t ht hW => ⟨⟨x_8, (), rfl, (fun _ => hfin), ⟨0, x_6, (if_pos g1).symm, z_end hP hK hD [0] rfl rfl [] rfl ht hW.alike⟩⟩, hS.F ht⟩) hS.2.2 dX8_strike_60
  · refine lv_if_eq (tgt := 17) hx hb dX8_strike_10 (by decide) (fun c_2 => ?_) (fun c_2 => absurd (by decide) c_2)
    refine lv_iconst (v := 1) hx hb dX8_strike_17 (by decide) ?_
    refine va_put (D := D) (ci := 10) (v := .int 1) (ty := .int) (C := RX8) (T := TX8) (N := 9) hx hb hts zin_X8 tyX8 tyX8_ok nmX8 hown hK hP hD hS 0 rfl rfl 0 (by decide) (hts _ zw_1080) (fun _ h9 => h9) rfl (by decide +kernel) rfl rfl (Nat.le_of_ble_eq_true rfl) dX8_strike_18 (fun H locs hP hD hS => ?_)
    have hP : va_P D vwCl [(m0, .inr (10, [.int 1, .ref qu, .ref qs, .ref qc, .ref qp, .int 0, .int (-1), .int 0, .null]))] H := hP
    have hD : va_D A [(m0, .inr (10, [.int 1, .ref qu, .ref qs, .ref qc, .ref qp, .int 0, .int (-1), .int 0, .null]))] := hD
    refine lv_aload_n hx hb dX8_strike_21 rfl (lv_at hl 0 rfl) ?_
    refine va_get (D := D) (ci := 10) (v := .int 1) (C := RX8) (T := TX8) (N := 9) hx hb hts zin_X8 hown hK hP 0 rfl rfl 0 (by decide) (hts _ zw_1080) (fun _ h9 => h9) rfl dX8_strike_22 ?_
    refine lv_if_le (tgt := 30) hx hb dX8_strike_25 (by decide) (fun c_3 => absurd c_3 (by decide)) (fun c_3 => ?_)
    refine lv_iconst (v := 0) hx hb dX8_strike_28 (by decide) ?_
    exact W.iret (v := 0) hx hb hr (fun t ht hW => ⟨⟨0, (), rfl, (fun h => absurd h g1), ⟨1, (-1), (if_neg g1).symm, z_end hP hK hD [0] rfl rfl [] rfl ht hW.alike⟩⟩, hS.F ht⟩) hS.2.2 dX8_strike_29
theorem dX8_goesOn_0 : decode cX8_goesOn 0 = .ok (.aload_n 0, 1) := by decide +kernel
theorem dX8_goesOn_1 : decode cX8_goesOn 1 = .ok (.getfield 16, 3) := by decide +kernel
theorem dX8_goesOn_4 : decode cX8_goesOn 4 = .ok (.invokevirtual 85, 3) := by decide +kernel
theorem dX8_goesOn_7 : decode cX8_goesOn 7 = .ok (.astore_n 1, 1) := by decide +kernel
theorem dX8_goesOn_8 : decode cX8_goesOn 8 = .ok (.aload_n 1, 1) := by decide +kernel
theorem dX8_goesOn_9 : decode cX8_goesOn 9 = .ok (.invokeinterface 89 1, 5) := by decide +kernel
theorem dX8_goesOn_14 : decode cX8_goesOn 14 = .ok (.ifCond .eq 21, 3) := by decide +kernel
theorem dX8_goesOn_35 : decode cX8_goesOn 35 = .ok (.iconst 4, 1) := by decide +kernel
theorem dX8_goesOn_36 : decode cX8_goesOn 36 = .ok (.newarray .boolean, 2) := by decide +kernel
theorem zw_1163 : Cond.arrayClass .boolean ∈ z_Ts := z_m 1163 (by decide +kernel) (by decide +kernel)
theorem dX8_goesOn_38 : decode cX8_goesOn 38 = .ok (.astore_n 1, 1) := by decide +kernel
theorem dX8_goesOn_39 : decode cX8_goesOn 39 = .ok (.iconst 0, 1) := by decide +kernel
theorem dX8_goesOn_40 : decode cX8_goesOn 40 = .ok (.istore_n 2, 1) := by decide +kernel
theorem dX8_goesOn_41 : decode cX8_goesOn 41 = .ok (.iload_n 2, 1) := by decide +kernel
theorem dX8_goesOn_42 : decode cX8_goesOn 42 = .ok (.aload_n 0, 1) := by decide +kernel
theorem dX8_goesOn_43 : decode cX8_goesOn 43 = .ok (.getfield 19, 3) := by decide +kernel
theorem dX8_goesOn_46 : decode cX8_goesOn 46 = .ok (.invokevirtual 33, 3) := by decide +kernel
theorem dX8_goesOn_49 : decode cX8_goesOn 49 = .ok (.if_icmp .ge 17, 3) := by decide +kernel
theorem dX8_goesOn_66 : decode cX8_goesOn 66 = .ok (.iconst 0, 1) := by decide +kernel
theorem dX8_goesOn_67 : decode cX8_goesOn 67 = .ok (.istore_n 2, 1) := by decide +kernel
theorem dX8_goesOn_68 : decode cX8_goesOn 68 = .ok (.iload_n 2, 1) := by decide +kernel
theorem dX8_goesOn_69 : decode cX8_goesOn 69 = .ok (.aload_n 0, 1) := by decide +kernel
theorem dX8_goesOn_70 : decode cX8_goesOn 70 = .ok (.getfield 10, 3) := by decide +kernel
theorem dX8_goesOn_73 : decode cX8_goesOn 73 = .ok (.invokevirtual 33, 3) := by decide +kernel
theorem dX8_goesOn_76 : decode cX8_goesOn 76 = .ok (.if_icmp .ge 239, 3) := by decide +kernel
theorem dX8_goesOn_315 : decode cX8_goesOn 315 = .ok (.aload_n 0, 1) := by decide +kernel
theorem dX8_goesOn_316 : decode cX8_goesOn 316 = .ok (.getfield 10, 3) := by decide +kernel
theorem dX8_goesOn_319 : decode cX8_goesOn 319 = .ok (.invokevirtual 85, 3) := by decide +kernel
theorem dX8_goesOn_322 : decode cX8_goesOn 322 = .ok (.astore_n 2, 1) := by decide +kernel
theorem dX8_goesOn_323 : decode cX8_goesOn 323 = .ok (.aload_n 2, 1) := by decide +kernel
theorem dX8_goesOn_324 : decode cX8_goesOn 324 = .ok (.invokeinterface 89 1, 5) := by decide +kernel
theorem dX8_goesOn_329 : decode cX8_goesOn 329 = .ok (.ifCond .eq 45, 3) := by decide +kernel
theorem dX8_goesOn_374 : decode cX8_goesOn 374 = .ok (.aload_n 0, 1) := by decide +kernel
theorem dX8_goesOn_375 : decode cX8_goesOn 375 = .ok (.getfield 16, 3) := by decide +kernel
theorem dX8_goesOn_378 : decode cX8_goesOn 378 = .ok (.invokevirtual 85, 3) := by decide +kernel
theorem dX8_goesOn_381 : decode cX8_goesOn 381 = .ok (.astore_n 2, 1) := by decide +kernel
theorem dX8_goesOn_382 : decode cX8_goesOn 382 = .ok (.aload_n 2, 1) := by decide +kernel
theorem dX8_goesOn_383 : decode cX8_goesOn 383 = .ok (.invokeinterface 89 1, 5) := by decide +kernel
theorem dX8_goesOn_388 : decode cX8_goesOn 388 = .ok (.ifCond .eq 21, 3) := by decide +kernel
theorem dX8_goesOn_409 : decode cX8_goesOn 409 = .ok (.aload_n 0, 1) := by decide +kernel
theorem dX8_goesOn_410 : decode cX8_goesOn 410 = .ok (.dup, 1) := by decide +kernel
theorem dX8_goesOn_411 : decode cX8_goesOn 411 = .ok (.getfield 105, 3) := by decide +kernel
theorem dX8_goesOn_414 : decode cX8_goesOn 414 = .ok (.iconst 1, 1) := by decide +kernel
theorem dX8_goesOn_415 : decode cX8_goesOn 415 = .ok (.iadd, 1) := by decide +kernel
theorem dX8_goesOn_416 : decode cX8_goesOn 416 = .ok (.putfield 105, 3) := by decide +kernel
theorem dX8_goesOn_419 : decode cX8_goesOn 419 = .ok (.return_, 1) := by decide +kernel
set_option maxHeartbeats 4000000 in
set_option maxRecDepth 100000 in
theorem g_X8_goesOn (l : Launch) (D : va_G) (m0 : Nat) (qu : Nat) (qs : Nat) (qc : Nat) (qp : Nat) (th : Int32) (eu : Nat) (es : Nat) (ec : Nat) (dy : Int32) (sz : Nat)  : Met l yX8_goesOn [Cond.code yX8_goesOn cX8_goesOn 8 none] ({ frames := 3, cells := 4, slots := 16, locals := 110 }) (z_Pc D [.ref m0] [(m0, .inr (10, [.int th, .ref qu, .ref qs, .ref qc, .ref qp, .int dy, .int (-1), .int 0, .null])), (qu, .inr (1, [.int 0, .ref eu, .int 0])), (qs, .inr (1, [.int 0, .ref es, .int 0])), (qc, .inr (1, [.int 0, .ref ec, .int 0]))] [] sz) (va_Qv (fun _ : Unit => True) (fun _ t => z_W D [(m0, .inr (10, [.int th, .ref qu, .ref qs, .ref qc, .ref qp, .int (dy + 1), .int (-1), .int 0, .null])), (qu, .inr (1, [.int 0, .ref eu, .int 0])), (qs, .inr (1, [.int 0, .ref es, .int 0])), (qc, .inr (1, [.int 0, .ref ec, .int 0]))] [] (va_A [(m0, .inr (10, [.int th, .ref qu, .ref qs, .ref qc, .ref qp, .int dy, .int (-1), .int 0, .null])), (qu, .inr (1, [.int 0, .ref eu, .int 0])), (qs, .inr (1, [.int 0, .ref es, .int 0])), (qc, .inr (1, [.int 0, .ref ec, .int 0]))] sz) t) (va_A [(m0, .inr (10, [.int th, .ref qu, .ref qs, .ref qc, .ref qp, .int dy, .int (-1), .int 0, .null])), (qu, .inr (1, [.int 0, .ref eu, .int 0])), (qs, .inr (1, [.int 0, .ref es, .int 0])), (qc, .inr (1, [.int 0, .ref ec, .int 0]))] sz)) 4 16 (va_A [(m0, .inr (10, [.int th, .ref qu, .ref qs, .ref qc, .ref qp, .int dy, .int (-1), .int 0, .null])), (qu, .inr (1, [.int 0, .ref eu, .int 0])), (qs, .inr (1, [.int 0, .ref es, .int 0])), (qc, .inr (1, [.int 0, .ref ec, .int 0]))] sz) := by
  refine Met.ofW (cc := cX8_goesOn) (maxL := 8) (ret := none) (by decide +kernel) rfl ?_
  intro p e s m args below meth c s₁ B hml hv
  obtain ⟨rfl, hsz, hP, hK, hD0, hE, hX0⟩ := hv
  have hx := B.exec
  have hb := B.bytes
  have hr := B.returns
  have hts := z_E.ts (args := [.ref m0].toArray) hE
  have hown : s.vm.findClass RX8 = some m.cls := findClass_of_methodNamed B.named
  have hlocks := B.notSynchronized
  subst hsz
  have hD := hD0.self (sz := s.heap.size)
  generalize hAe : va_A [(m0, .inr (10, [.int th, .ref qu, .ref qs, .ref qc, .ref qp, .int dy, .int (-1), .int 0, .null])), (qu, .inr (1, [.int 0, .ref eu, .int 0])), (qs, .inr (1, [.int 0, .ref es, .int 0])), (qc, .inr (1, [.int 0, .ref ec, .int 0]))] s.heap.size = A at hD hX0 ⊢
  have hX : z_X D A s s.heap := hX0
  have hA : ∀ q : Nat, s.heap.size ≤ q → A q := fun q h => by rw [← hAe]; exact Or.inr h
  have hS : va_S A s.heap s.heap [] := va_S.rf
  have hP : va_P D vwCl [(m0, .inr (10, [.int th, .ref qu, .ref qs, .ref qc, .ref qp, .int dy, .int (-1), .int 0, .null])), (qu, .inr (1, [.int 0, .ref eu, .int 0])), (qs, .inr (1, [.int 0, .ref es, .int 0])), (qc, .inr (1, [.int 0, .ref ec, .int 0]))] s.heap := hP
  have hl := lv_entry ([.ref m0]) (n := 8) (Nat.le_of_ble_eq_true rfl)
  rw [lg_entry_eq]
  generalize (lg_sl ([.ref m0]) ++ List.replicate (8 - (lg_sl ([.ref m0])).length) Slot.unset).toArray = ls at hl ⊢
  have hl : lv_has ls 8 [(0, .ref m0)] := hl
  skip
  refine lv_aload_n hx hb dX8_goesOn_0 rfl (lv_at hl 0 rfl) ?_
  refine va_get (D := D) (ci := 10) (v := .ref qs) (C := RX8) (T := TX8) (N := 9) hx hb hts zin_X8 hown hK hP 0 rfl rfl 2 (by decide) (hts _ zw_1082) (fun _ h9 => h9) rfl dX8_goesOn_1 ?_
  obtain ⟨hb_2, hc_2⟩ := z_call (wc := [(qs, .inr (1, [.int 0, .ref es, .int 0]))]) (tc := []) ([.ref qs]) hP hK hD hS hA hE hX [2] rfl rfl [] rfl
  have hF_2 := va_free (wc := [(qs, .inr (1, [.int 0, .ref es, .int 0]))]) hD hS hA [2] rfl
  refine va_callr (va_runV (As := []) (rest := []) ⟨hx, hb, hml, hown, hts⟩ (c_al_iterator l D qs es _ ) (z_cV 0 hE zw_1256 zw_1257 zw_1258 zw_99 zw_1259 rfl rfl rfl (by decide +kernel) ⟨(Nat.le_of_ble_eq_true rfl), (Nat.le_of_ble_eq_true rfl)⟩) ⟨hb_2, va_recv hK hP (ci := 1) (q0 := 2) rfl rfl, hc_2⟩ rfl rfl hl.1 rfl (lv_room (Nat.le_of_ble_eq_true rfl)) dX8_goesOn_4 ⟨(Nat.le_of_ble_eq_true rfl), (Nat.le_of_ble_eq_true rfl)⟩) hS (fun q _ h => hF_2 q h) hF_2 (fun u_2 it_1 t_2 H1 locs ht_2 hvm_2 hw_2 hB_2 hz_2 hk_2 hS1 => ?_)
  obtain ⟨hP, hK, hD⟩ := z_back (wc := [(qs, .inr (1, [.int 0, .ref es, .int 0]))]) (wr := [(m0, .inr (10, [.int th, .ref qu, .ref qs, .ref qc, .ref qp, .int dy, .int (-1), .int 0, .null])), (qu, .inr (1, [.int 0, .ref eu, .int 0])), (qc, .inr (1, [.int 0, .ref ec, .int 0]))]) (w1 := [(qs, .inr (1, [.int 0, .ref es, .int 0])), (it_1, .inr (0, [.int 0, .int (-1), .int 0, .ref qs]))]) (tr := []) hP hK hD [2] [0, 1, 3] rfl rfl rfl (by decide) ht_2 hvm_2 hk_2 hF_2 [] rfl hB_2
  have hS := hS1
  have hP : va_P D vwCl [(m0, .inr (10, [.int th, .ref qu, .ref qs, .ref qc, .ref qp, .int dy, .int (-1), .int 0, .null])), (qu, .inr (1, [.int 0, .ref eu, .int 0])), (qc, .inr (1, [.int 0, .ref ec, .int 0])), (qs, .inr (1, [.int 0, .ref es, .int 0])), (it_1, .inr (0, [.int 0, .int (-1), .int 0, .ref qs]))] H1 := hP
  have hD : va_D A [(m0, .inr (10, [.int th, .ref qu, .ref qs, .ref qc, .ref qp, .int dy, .int (-1), .int 0, .null])), (qu, .inr (1, [.int 0, .ref eu, .int 0])), (qc, .inr (1, [.int 0, .ref ec, .int 0])), (qs, .inr (1, [.int 0, .ref es, .int 0])), (it_1, .inr (0, [.int 0, .int (-1), .int 0, .ref qs]))] := hD
  have hK : va_K D vwCl [] s := hK
  clear hS1
  refine lv_astore_n (lv' := [(1, .ref it_1), (0, .ref m0)]) hx hb dX8_goesOn_7 rfl hl (by decide) rfl (fun ls hl => ?_)
  refine lv_aload_n hx hb dX8_goesOn_8 rfl (lv_at hl 0 rfl) ?_
  obtain ⟨hb_3, hc_3⟩ := z_call (wc := [(it_1, .inr (0, [.int 0, .int (-1), .int 0, .ref qs])), (qs, .inr (1, [.int 0, .ref es, .int 0]))]) (tc := []) ([.ref it_1]) hP hK hD hS hA hE hX [4, 3] rfl rfl [] rfl
  have hF_3 := va_free (wc := [(it_1, .inr (0, [.int 0, .int (-1), .int 0, .ref qs])), (qs, .inr (1, [.int 0, .ref es, .int 0]))]) hD hS hA [4, 3] rfl
  refine va_callFi (va_runF (As := []) (rest := []) (hK.1 0 _ rfl).2 ⟨hx, hb, hml, hown, hts⟩ (c_itr_hasNext l D it_1 qs es _) (z_cF 0 hE zw_1280 zw_1284 zw_1286 zw_115 zw_1288 rfl rfl rfl (hX.2.1.1) (by decide +kernel) ⟨(Nat.le_of_ble_eq_true rfl), (Nat.le_of_ble_eq_true rfl)⟩) ⟨hb_3, va_recv hK hP (ci := 0) (q0 := 4) rfl rfl, hc_3⟩ rfl rfl hl.1 rfl (lv_room (Nat.le_of_ble_eq_true rfl)) dX8_goesOn_9 ⟨(Nat.le_of_ble_eq_true rfl), (Nat.le_of_ble_eq_true rfl)⟩) hS (fun q _ h => hF_3 q h) hF_3 (fun r_3 u_3 t_3 H1 locs ht_3 hvm_3 hw_3 hB_3 hz_3 hk_3 hS1 => ?_)
  obtain ⟨hP, hK, hD⟩ := z_back (wc := [(it_1, .inr (0, [.int 0, .int (-1), .int 0, .ref qs])), (qs, .inr (1, [.int 0, .ref es, .int 0]))]) (wr := [(m0, .inr (10, [.int th, .ref qu, .ref qs, .ref qc, .ref qp, .int dy, .int (-1), .int 0, .null])), (qu, .inr (1, [.int 0, .ref eu, .int 0])), (qc, .inr (1, [.int 0, .ref ec, .int 0]))]) (w1 := [(it_1, .inr (0, [.int 0, .int (-1), .int 0, .ref qs])), (qs, .inr (1, [.int 0, .ref es, .int 0]))]) (tr := []) hP hK hD [4, 3] [0, 1, 2] rfl rfl rfl (by decide) ht_3 hvm_3 hk_3 hF_3 [] rfl hB_3
  have hS := hS1
  have hP : va_P D vwCl [(m0, .inr (10, [.int th, .ref qu, .ref qs, .ref qc, .ref qp, .int dy, .int (-1), .int 0, .null])), (qu, .inr (1, [.int 0, .ref eu, .int 0])), (qc, .inr (1, [.int 0, .ref ec, .int 0])), (it_1, .inr (0, [.int 0, .int (-1), .int 0, .ref qs])), (qs, .inr (1, [.int 0, .ref es, .int 0]))] H1 := hP
  have hD : va_D A [(m0, .inr (10, [.int th, .ref qu, .ref qs, .ref qc, .ref qp, .int dy, .int (-1), .int 0, .null])), (qu, .inr (1, [.int 0, .ref eu, .int 0])), (qc, .inr (1, [.int 0, .ref ec, .int 0])), (it_1, .inr (0, [.int 0, .int (-1), .int 0, .ref qs])), (qs, .inr (1, [.int 0, .ref es, .int 0]))] := hD
  have hK : va_K D vwCl [] s := hK
  clear hS1
  obtain rfl : r_3 = 0 := hw_3
  refine lv_if_eq (tgt := 35) hx hb dX8_goesOn_14 (by decide) (fun c_4 => ?_) (fun c_4 => absurd (by decide) c_4)
  refine lv_iconst (v := 4) hx hb dX8_goesOn_35 (by decide) ?_
  refine va_newa (atype := .boolean) (ty := .boolean) (N' := 4) (a0 := (4, .inl (fun _ => 0))) hx hb (hts _ zw_1163) rfl hK hP hD hS hA (fun cA => rfl) (by decide) (by decide) (by decide) (Nat.le_of_ble_eq_true rfl) (Nat.le_of_ble_eq_true rfl) dX8_goesOn_36 (fun q_5 cA_6 H hK hP hD hS => ?_)
  have hP : va_P D vwCl [(m0, .inr (10, [.int th, .ref qu, .ref qs, .ref qc, .ref qp, .int dy, .int (-1), .int 0, .null])), (qu, .inr (1, [.int 0, .ref eu, .int 0])), (qc, .inr (1, [.int 0, .ref ec, .int 0])), (it_1, .inr (0, [.int 0, .int (-1), .int 0, .ref qs])), (qs, .inr (1, [.int 0, .ref es, .int 0])), (q_5, .inl (cA_6, 4, .inl (fun _ => 0)))] H := hP
  have hD : va_D A [(m0, .inr (10, [.int th, .ref qu, .ref qs, .ref qc, .ref qp, .int dy, .int (-1), .int 0, .null])), (qu, .inr (1, [.int 0, .ref eu, .int 0])), (qc, .inr (1, [.int 0, .ref ec, .int 0])), (it_1, .inr (0, [.int 0, .int (-1), .int 0, .ref qs])), (qs, .inr (1, [.int 0, .ref es, .int 0])), (q_5, .inl (cA_6, 4, .inl (fun _ => 0)))] := hD
  have hK : va_K D vwCl [(cA_6, .boolean)] s := hK
  refine lv_astore_n (lv' := [(1, .ref q_5), (0, .ref m0)]) hx hb dX8_goesOn_38 rfl hl (by decide) rfl (fun ls hl => ?_)
  refine lv_iconst (v := 0) hx hb dX8_goesOn_39 (by decide) ?_
  refine lv_istore_n (lv' := [(2, .int 0), (1, .ref q_5), (0, .ref m0)]) hx hb dX8_goesOn_40 rfl hl (by decide) rfl (fun ls hl => ?_)
  refine lv_iload_n hx hb dX8_goesOn_41 rfl (lv_at hl 0 rfl) ?_
  refine lv_aload_n hx hb dX8_goesOn_42 rfl (lv_at hl 2 rfl) ?_
  refine va_get (D := D) (ci := 10) (v := .ref qc) (C := RX8) (T := TX8) (N := 9) hx hb hts zin_X8 hown hK hP 0 rfl rfl 3 (by decide) (hts _ zw_1083) (fun _ h9 => h9) rfl dX8_goesOn_43 ?_
  obtain ⟨hb_7, hc_7⟩ := z_call (wc := [(qc, .inr (1, [.int 0, .ref ec, .int 0]))]) (tc := []) ([.ref qc]) hP hK hD hS hA hE hX [2] rfl rfl [] rfl
  have hF_7 := va_free (wc := [(qc, .inr (1, [.int 0, .ref ec, .int 0]))]) hD hS hA [2] rfl
  refine va_calli (va_runV (As := []) (rest := [.int 0]) ⟨hx, hb, hml, hown, hts⟩ (c_J_size l D qc 0 ec 0 _ ) (z_cV 0 hE zw_1125 zw_1126 zw_1127 zw_99 zw_1128 rfl rfl rfl (by decide +kernel) ⟨(Nat.le_of_ble_eq_true rfl), (Nat.le_of_ble_eq_true rfl)⟩) ⟨hb_7, va_recv hK hP (ci := 1) (q0 := 2) rfl rfl, hc_7⟩ rfl rfl hl.1 rfl (lv_room (Nat.le_of_ble_eq_true rfl)) dX8_goesOn_46 ⟨(Nat.le_of_ble_eq_true rfl), (Nat.le_of_ble_eq_true rfl)⟩) hS (fun q _ h => hF_7 q h) hF_7 (fun r_7 u_7 t_7 H1 locs ht_7 hvm_7 hw_7 hB_7 hz_7 hk_7 hS1 => ?_)
  obtain ⟨hP, hK, hD⟩ := z_back (wc := [(qc, .inr (1, [.int 0, .ref ec, .int 0]))]) (wr := [(m0, .inr (10, [.int th, .ref qu, .ref qs, .ref qc, .ref qp, .int dy, .int (-1), .int 0, .null])), (qu, .inr (1, [.int 0, .ref eu, .int 0])), (it_1, .inr (0, [.int 0, .int (-1), .int 0, .ref qs])), (qs, .inr (1, [.int 0, .ref es, .int 0])), (q_5, .inl (cA_6, 4, .inl (fun _ => 0)))]) (w1 := [(qc, .inr (1, [.int 0, .ref ec, .int 0]))]) (tr := [(cA_6, .boolean)]) hP hK hD [2] [0, 1, 3, 4, 5] rfl rfl rfl (by decide) ht_7 hvm_7 hk_7 hF_7 [0] rfl hB_7
  have hS := hS1
  have hP : va_P D vwCl [(m0, .inr (10, [.int th, .ref qu, .ref qs, .ref qc, .ref qp, .int dy, .int (-1), .int 0, .null])), (qu, .inr (1, [.int 0, .ref eu, .int 0])), (it_1, .inr (0, [.int 0, .int (-1), .int 0, .ref qs])), (qs, .inr (1, [.int 0, .ref es, .int 0])), (q_5, .inl (cA_6, 4, .inl (fun _ => 0))), (qc, .inr (1, [.int 0, .ref ec, .int 0]))] H1 := hP
  have hD : va_D A [(m0, .inr (10, [.int th, .ref qu, .ref qs, .ref qc, .ref qp, .int dy, .int (-1), .int 0, .null])), (qu, .inr (1, [.int 0, .ref eu, .int 0])), (it_1, .inr (0, [.int 0, .int (-1), .int 0, .ref qs])), (qs, .inr (1, [.int 0, .ref es, .int 0])), (q_5, .inl (cA_6, 4, .inl (fun _ => 0))), (qc, .inr (1, [.int 0, .ref ec, .int 0]))] := hD
  have hK : va_K D vwCl [(cA_6, .boolean)] s := hK
  clear hS1
  obtain rfl : r_7 = 0 := hw_7
  refine lv_icmp_ge (tgt := 66) hx hb dX8_goesOn_49 (by decide) (fun c_8 => ?_) (fun c_8 => absurd (by decide) c_8)
  refine lv_iconst (v := 0) hx hb dX8_goesOn_66 (by decide) ?_
  refine lv_istore_n (lv' := [(2, .int 0), (1, .ref q_5), (0, .ref m0)]) hx hb dX8_goesOn_67 rfl hl (by decide) rfl (fun ls hl => ?_)
  refine lv_iload_n hx hb dX8_goesOn_68 rfl (lv_at hl 0 rfl) ?_
  refine lv_aload_n hx hb dX8_goesOn_69 rfl (lv_at hl 2 rfl) ?_
  refine va_get (D := D) (ci := 10) (v := .ref qu) (C := RX8) (T := TX8) (N := 9) hx hb hts zin_X8 hown hK hP 0 rfl rfl 1 (by decide) (hts _ zw_1081) (fun _ h9 => h9) rfl dX8_goesOn_70 ?_
  obtain ⟨hb_9, hc_9⟩ := z_call (wc := [(qu, .inr (1, [.int 0, .ref eu, .int 0]))]) (tc := []) ([.ref qu]) hP hK hD hS hA hE hX [1] rfl rfl [] rfl
  have hF_9 := va_free (wc := [(qu, .inr (1, [.int 0, .ref eu, .int 0]))]) hD hS hA [1] rfl
  refine va_calli (va_runV (As := []) (rest := [.int 0]) ⟨hx, hb, hml, hown, hts⟩ (c_J_size l D qu 0 eu 0 _ ) (z_cV 0 hE zw_1125 zw_1126 zw_1127 zw_99 zw_1128 rfl rfl rfl (by decide +kernel) ⟨(Nat.le_of_ble_eq_true rfl), (Nat.le_of_ble_eq_true rfl)⟩) ⟨hb_9, va_recv hK hP (ci := 1) (q0 := 1) rfl rfl, hc_9⟩ rfl rfl hl.1 rfl (lv_room (Nat.le_of_ble_eq_true rfl)) dX8_goesOn_73 ⟨(Nat.le_of_ble_eq_true rfl), (Nat.le_of_ble_eq_true rfl)⟩) hS (fun q _ h => hF_9 q h) hF_9 (fun r_9 u_9 t_9 H1 locs ht_9 hvm_9 hw_9 hB_9 hz_9 hk_9 hS1 => ?_)
  obtain ⟨hP, hK, hD⟩ := z_back (wc := [(qu, .inr (1, [.int 0, .ref eu, .int 0]))]) (wr := [(m0, .inr (10, [.int th, .ref qu, .ref qs, .ref qc, .ref qp, .int dy, .int (-1), .int 0, .null])), (it_1, .inr (0, [.int 0, .int (-1), .int 0, .ref qs])), (qs, .inr (1, [.int 0, .ref es, .int 0])), (q_5, .inl (cA_6, 4, .inl (fun _ => 0))), (qc, .inr (1, [.int 0, .ref ec, .int 0]))]) (w1 := [(qu, .inr (1, [.int 0, .ref eu, .int 0]))]) (tr := [(cA_6, .boolean)]) hP hK hD [1] [0, 2, 3, 4, 5] rfl rfl rfl (by decide) ht_9 hvm_9 hk_9 hF_9 [0] rfl hB_9
  have hS := hS1
  have hP : va_P D vwCl [(m0, .inr (10, [.int th, .ref qu, .ref qs, .ref qc, .ref qp, .int dy, .int (-1), .int 0, .null])), (it_1, .inr (0, [.int 0, .int (-1), .int 0, .ref qs])), (qs, .inr (1, [.int 0, .ref es, .int 0])), (q_5, .inl (cA_6, 4, .inl (fun _ => 0))), (qc, .inr (1, [.int 0, .ref ec, .int 0])), (qu, .inr (1, [.int 0, .ref eu, .int 0]))] H1 := hP
  have hD : va_D A [(m0, .inr (10, [.int th, .ref qu, .ref qs, .ref qc, .ref qp, .int dy, .int (-1), .int 0, .null])), (it_1, .inr (0, [.int 0, .int (-1), .int 0, .ref qs])), (qs, .inr (1, [.int 0, .ref es, .int 0])), (q_5, .inl (cA_6, 4, .inl (fun _ => 0))), (qc, .inr (1, [.int 0, .ref ec, .int 0])), (qu, .inr (1, [.int 0, .ref eu, .int 0]))] := hD
  have hK : va_K D vwCl [(cA_6, .boolean)] s := hK
  clear hS1
  obtain rfl : r_9 = 0 := hw_9
  refine lv_icmp_ge (tgt := 315) hx hb dX8_goesOn_76 (by decide) (fun c_10 => ?_) (fun c_10 => absurd (by decide) c_10)
  refine lv_aload_n hx hb dX8_goesOn_315 rfl (lv_at hl 2 rfl) ?_
  refine va_get (D := D) (ci := 10) (v := .ref qu) (C := RX8) (T := TX8) (N := 9) hx hb hts zin_X8 hown hK hP 0 rfl rfl 1 (by decide) (hts _ zw_1081) (fun _ h9 => h9) rfl dX8_goesOn_316 ?_
  obtain ⟨hb_12, hc_12⟩ := z_call (wc := [(qu, .inr (1, [.int 0, .ref eu, .int 0]))]) (tc := []) ([.ref qu]) hP hK hD hS hA hE hX [5] rfl rfl [] rfl
  have hF_12 := va_free (wc := [(qu, .inr (1, [.int 0, .ref eu, .int 0]))]) hD hS hA [5] rfl
  refine va_callr (va_runV (As := []) (rest := []) ⟨hx, hb, hml, hown, hts⟩ (c_al_iterator l D qu eu _ ) (z_cV 0 hE zw_1256 zw_1257 zw_1258 zw_99 zw_1259 rfl rfl rfl (by decide +kernel) ⟨(Nat.le_of_ble_eq_true rfl), (Nat.le_of_ble_eq_true rfl)⟩) ⟨hb_12, va_recv hK hP (ci := 1) (q0 := 5) rfl rfl, hc_12⟩ rfl rfl hl.1 rfl (lv_room (Nat.le_of_ble_eq_true rfl)) dX8_goesOn_319 ⟨(Nat.le_of_ble_eq_true rfl), (Nat.le_of_ble_eq_true rfl)⟩) hS (fun q _ h => hF_12 q h) hF_12 (fun u_12 it_11 t_12 H1 locs ht_12 hvm_12 hw_12 hB_12 hz_12 hk_12 hS1 => ?_)
  obtain ⟨hP, hK, hD⟩ := z_back (wc := [(qu, .inr (1, [.int 0, .ref eu, .int 0]))]) (wr := [(m0, .inr (10, [.int th, .ref qu, .ref qs, .ref qc, .ref qp, .int dy, .int (-1), .int 0, .null])), (it_1, .inr (0, [.int 0, .int (-1), .int 0, .ref qs])), (qs, .inr (1, [.int 0, .ref es, .int 0])), (q_5, .inl (cA_6, 4, .inl (fun _ => 0))), (qc, .inr (1, [.int 0, .ref ec, .int 0]))]) (w1 := [(qu, .inr (1, [.int 0, .ref eu, .int 0])), (it_11, .inr (0, [.int 0, .int (-1), .int 0, .ref qu]))]) (tr := [(cA_6, .boolean)]) hP hK hD [5] [0, 1, 2, 3, 4] rfl rfl rfl (by decide) ht_12 hvm_12 hk_12 hF_12 [0] rfl hB_12
  have hS := hS1
  have hP : va_P D vwCl [(m0, .inr (10, [.int th, .ref qu, .ref qs, .ref qc, .ref qp, .int dy, .int (-1), .int 0, .null])), (it_1, .inr (0, [.int 0, .int (-1), .int 0, .ref qs])), (qs, .inr (1, [.int 0, .ref es, .int 0])), (q_5, .inl (cA_6, 4, .inl (fun _ => 0))), (qc, .inr (1, [.int 0, .ref ec, .int 0])), (qu, .inr (1, [.int 0, .ref eu, .int 0])), (it_11, .inr (0, [.int 0, .int (-1), .int 0, .ref qu]))] H1 := hP
  have hD : va_D A [(m0, .inr (10, [.int th, .ref qu, .ref qs, .ref qc, .ref qp, .int dy, .int (-1), .int 0, .null])), (it_1, .inr (0, [.int 0, .int (-1), .int 0, .ref qs])), (qs, .inr (1, [.int 0, .ref es, .int 0])), (q_5, .inl (cA_6, 4, .inl (fun _ => 0))), (qc, .inr (1, [.int 0, .ref ec, .int 0])), (qu, .inr (1, [.int 0, .ref eu, .int 0])), (it_11, .inr (0, [.int 0, .int (-1), .int 0, .ref qu]))] := hD
  have hK : va_K D vwCl [(cA_6, .boolean)] s := hK
  clear hS1
  refine lv_astore_n (lv' := [(2, .ref it_11), (1, .ref q_5), (0, .ref m0)]) hx hb dX8_goesOn_322 rfl hl (by decide) rfl (fun ls hl => ?_)
  refine lv_aload_n hx hb dX8_goesOn_323 rfl (lv_at hl 0 rfl) ?_
  obtain ⟨hb_13, hc_13⟩ := z_call (wc := [(it_11, .inr (0, [.int 0, .int (-1), .int 0, .ref qu])), (qu, .inr (1, [.int 0, .ref eu, .int 0]))]) (tc := []) ([.ref it_11]) hP hK hD hS hA hE hX [6, 5] rfl rfl [] rfl
  have hF_13 := va_free (wc := [(it_11, .inr (0, [.int 0, .int (-1), .int 0, .ref qu])), (qu, .inr (1, [.int 0, .ref eu, .int 0]))]) hD hS hA [6, 5] rfl
  refine va_callFi (va_runF (As := []) (rest := []) (hK.1 0 _ rfl).2 ⟨hx, hb, hml, hown, hts⟩ (c_itr_hasNext l D it_11 qu eu _) (z_cF 0 hE zw_1280 zw_1284 zw_1286 zw_115 zw_1288 rfl rfl rfl (hX.2.1.1) (by decide +kernel) ⟨(Nat.le_of_ble_eq_true rfl), (Nat.le_of_ble_eq_true rfl)⟩) ⟨hb_13, va_recv hK hP (ci := 0) (q0 := 6) rfl rfl, hc_13⟩ rfl rfl hl.1 rfl (lv_room (Nat.le_of_ble_eq_true rfl)) dX8_goesOn_324 ⟨(Nat.le_of_ble_eq_true rfl), (Nat.le_of_ble_eq_true rfl)⟩) hS (fun q _ h => hF_13 q h) hF_13 (fun r_13 u_13 t_13 H1 locs ht_13 hvm_13 hw_13 hB_13 hz_13 hk_13 hS1 => ?_)
  obtain ⟨hP, hK, hD⟩ := z_back (wc := [(it_11, .inr (0, [.int 0, .int (-1), .int 0, .ref qu])), (qu, .inr (1, [.int 0, .ref eu, .int 0]))]) (wr := [(m0, .inr (10, [.int th, .ref qu, .ref qs, .ref qc, .ref qp, .int dy, .int (-1), .int 0, .null])), (it_1, .inr (0, [.int 0, .int (-1), .int 0, .ref qs])), (qs, .inr (1, [.int 0, .ref es, .int 0])), (q_5, .inl (cA_6, 4, .inl (fun _ => 0))), (qc, .inr (1, [.int 0, .ref ec, .int 0]))]) (w1 := [(it_11, .inr (0, [.int 0, .int (-1), .int 0, .ref qu])), (qu, .inr (1, [.int 0, .ref eu, .int 0]))]) (tr := [(cA_6, .boolean)]) hP hK hD [6, 5] [0, 1, 2, 3, 4] rfl rfl rfl (by decide) ht_13 hvm_13 hk_13 hF_13 [0] rfl hB_13
  have hS := hS1
  have hP : va_P D vwCl [(m0, .inr (10, [.int th, .ref qu, .ref qs, .ref qc, .ref qp, .int dy, .int (-1), .int 0, .null])), (it_1, .inr (0, [.int 0, .int (-1), .int 0, .ref qs])), (qs, .inr (1, [.int 0, .ref es, .int 0])), (q_5, .inl (cA_6, 4, .inl (fun _ => 0))), (qc, .inr (1, [.int 0, .ref ec, .int 0])), (it_11, .inr (0, [.int 0, .int (-1), .int 0, .ref qu])), (qu, .inr (1, [.int 0, .ref eu, .int 0]))] H1 := hP
  have hD : va_D A [(m0, .inr (10, [.int th, .ref qu, .ref qs, .ref qc, .ref qp, .int dy, .int (-1), .int 0, .null])), (it_1, .inr (0, [.int 0, .int (-1), .int 0, .ref qs])), (qs, .inr (1, [.int 0, .ref es, .int 0])), (q_5, .inl (cA_6, 4, .inl (fun _ => 0))), (qc, .inr (1, [.int 0, .ref ec, .int 0])), (it_11, .inr (0, [.int 0, .int (-1), .int 0, .ref qu])), (qu, .inr (1, [.int 0, .ref eu, .int 0]))] := hD
  have hK : va_K D vwCl [(cA_6, .boolean)] s := hK
  clear hS1
  obtain rfl : r_13 = 0 := hw_13
  refine lv_if_eq (tgt := 374) hx hb dX8_goesOn_329 (by decide) (fun c_14 => ?_) (fun c_14 => absurd (by decide) c_14)
  refine lv_aload_n hx hb dX8_goesOn_374 rfl (lv_at hl 2 rfl) ?_
  refine va_get (D := D) (ci := 10) (v := .ref qs) (C := RX8) (T := TX8) (N := 9) hx hb hts zin_X8 hown hK hP 0 rfl rfl 2 (by decide) (hts _ zw_1082) (fun _ h9 => h9) rfl dX8_goesOn_375 ?_
  obtain ⟨hb_16, hc_16⟩ := z_call (wc := [(qs, .inr (1, [.int 0, .ref es, .int 0]))]) (tc := []) ([.ref qs]) hP hK hD hS hA hE hX [2] rfl rfl [] rfl
  have hF_16 := va_free (wc := [(qs, .inr (1, [.int 0, .ref es, .int 0]))]) hD hS hA [2] rfl
  refine va_callr (va_runV (As := []) (rest := []) ⟨hx, hb, hml, hown, hts⟩ (c_al_iterator l D qs es _ ) (z_cV 0 hE zw_1256 zw_1257 zw_1258 zw_99 zw_1259 rfl rfl rfl (by decide +kernel) ⟨(Nat.le_of_ble_eq_true rfl), (Nat.le_of_ble_eq_true rfl)⟩) ⟨hb_16, va_recv hK hP (ci := 1) (q0 := 2) rfl rfl, hc_16⟩ rfl rfl hl.1 rfl (lv_room (Nat.le_of_ble_eq_true rfl)) dX8_goesOn_378 ⟨(Nat.le_of_ble_eq_true rfl), (Nat.le_of_ble_eq_true rfl)⟩) hS (fun q _ h => hF_16 q h) hF_16 (fun u_16 it_15 t_16 H1 locs ht_16 hvm_16 hw_16 hB_16 hz_16 hk_16 hS1 => ?_)
  obtain ⟨hP, hK, hD⟩ := z_back (wc := [(qs, .inr (1, [.int 0, .ref es, .int 0]))]) (wr := [(m0, .inr (10, [.int th, .ref qu, .ref qs, .ref qc, .ref qp, .int dy, .int (-1), .int 0, .null])), (it_1, .inr (0, [.int 0, .int (-1), .int 0, .ref qs])), (q_5, .inl (cA_6, 4, .inl (fun _ => 0))), (qc, .inr (1, [.int 0, .ref ec, .int 0])), (it_11, .inr (0, [.int 0, .int (-1), .int 0, .ref qu])), (qu, .inr (1, [.int 0, .ref eu, .int 0]))]) (w1 := [(qs, .inr (1, [.int 0, .ref es, .int 0])), (it_15, .inr (0, [.int 0, .int (-1), .int 0, .ref qs]))]) (tr := [(cA_6, .boolean)]) hP hK hD [2] [0, 1, 3, 4, 5, 6] rfl rfl rfl (by decide) ht_16 hvm_16 hk_16 hF_16 [0] rfl hB_16
  have hS := hS1
  have hP : va_P D vwCl [(m0, .inr (10, [.int th, .ref qu, .ref qs, .ref qc, .ref qp, .int dy, .int (-1), .int 0, .null])), (it_1, .inr (0, [.int 0, .int (-1), .int 0, .ref qs])), (q_5, .inl (cA_6, 4, .inl (fun _ => 0))), (qc, .inr (1, [.int 0, .ref ec, .int 0])), (it_11, .inr (0, [.int 0, .int (-1), .int 0, .ref qu])), (qu, .inr (1, [.int 0, .ref eu, .int 0])), (qs, .inr (1, [.int 0, .ref es, .int 0])), (it_15, .inr (0, [.int 0, .int (-1), .int 0, .ref qs]))] H1 := hP
  have hD : va_D A [(m0, .inr (10, [.int th, .ref qu, .ref qs, .ref qc, .ref qp, .int dy, .int (-1), .int 0, .null])), (it_1, .inr (0, [.int 0, .int (-1), .int 0, .ref qs])), (q_5, .inl (cA_6, 4, .inl (fun _ => 0))), (qc, .inr (1, [.int 0, .ref ec, .int 0])), (it_11, .inr (0, [.int 0, .int (-1), .int 0, .ref qu])), (qu, .inr (1, [.int 0, .ref eu, .int 0])), (qs, .inr (1, [.int 0, .ref es, .int 0])), (it_15, .inr (0, [.int 0, .int (-1), .int 0, .ref qs]))] := hD
  have hK : va_K D vwCl [(cA_6, .boolean)] s := hK
  clear hS1
  refine lv_astore_n (lv' := [(2, .ref it_15), (1, .ref q_5), (0, .ref m0)]) hx hb dX8_goesOn_381 rfl hl (by decide) rfl (fun ls hl => ?_)
  refine lv_aload_n hx hb dX8_goesOn_382 rfl (lv_at hl 0 rfl) ?_
  obtain ⟨hb_17, hc_17⟩ := z_call (wc := [(it_15, .inr (0, [.int 0, .int (-1), .int 0, .ref qs])), (qs, .inr (1, [.int 0, .ref es, .int 0]))]) (tc := []) ([.ref it_15]) hP hK hD hS hA hE hX [7, 6] rfl rfl [] rfl
  have hF_17 := va_free (wc := [(it_15, .inr (0, [.int 0, .int (-1), .int 0, .ref qs])), (qs, .inr (1, [.int 0, .ref es, .int 0]))]) hD hS hA [7, 6] rfl
  refine va_callFi (va_runF (As := []) (rest := []) (hK.1 0 _ rfl).2 ⟨hx, hb, hml, hown, hts⟩ (c_itr_hasNext l D it_15 qs es _) (z_cF 0 hE zw_1280 zw_1284 zw_1286 zw_115 zw_1288 rfl rfl rfl (hX.2.1.1) (by decide +kernel) ⟨(Nat.le_of_ble_eq_true rfl), (Nat.le_of_ble_eq_true rfl)⟩) ⟨hb_17, va_recv hK hP (ci := 0) (q0 := 7) rfl rfl, hc_17⟩ rfl rfl hl.1 rfl (lv_room (Nat.le_of_ble_eq_true rfl)) dX8_goesOn_383 ⟨(Nat.le_of_ble_eq_true rfl), (Nat.le_of_ble_eq_true rfl)⟩) hS (fun q _ h => hF_17 q h) hF_17 (fun r_17 u_17 t_17 H1 locs ht_17 hvm_17 hw_17 hB_17 hz_17 hk_17 hS1 => ?_)
  obtain ⟨hP, hK, hD⟩ := z_back (wc := [(it_15, .inr (0, [.int 0, .int (-1), .int 0, .ref qs])), (qs, .inr (1, [.int 0, .ref es, .int 0]))]) (wr := [(m0, .inr (10, [.int th, .ref qu, .ref qs, .ref qc, .ref qp, .int dy, .int (-1), .int 0, .null])), (it_1, .inr (0, [.int 0, .int (-1), .int 0, .ref qs])), (q_5, .inl (cA_6, 4, .inl (fun _ => 0))), (qc, .inr (1, [.int 0, .ref ec, .int 0])), (it_11, .inr (0, [.int 0, .int (-1), .int 0, .ref qu])), (qu, .inr (1, [.int 0, .ref eu, .int 0]))]) (w1 := [(it_15, .inr (0, [.int 0, .int (-1), .int 0, .ref qs])), (qs, .inr (1, [.int 0, .ref es, .int 0]))]) (tr := [(cA_6, .boolean)]) hP hK hD [7, 6] [0, 1, 2, 3, 4, 5] rfl rfl rfl (by decide) ht_17 hvm_17 hk_17 hF_17 [0] rfl hB_17
  have hS := hS1
  have hP : va_P D vwCl [(m0, .inr (10, [.int th, .ref qu, .ref qs, .ref qc, .ref qp, .int dy, .int (-1), .int 0, .null])), (it_1, .inr (0, [.int 0, .int (-1), .int 0, .ref qs])), (q_5, .inl (cA_6, 4, .inl (fun _ => 0))), (qc, .inr (1, [.int 0, .ref ec, .int 0])), (it_11, .inr (0, [.int 0, .int (-1), .int 0, .ref qu])), (qu, .inr (1, [.int 0, .ref eu, .int 0])), (it_15, .inr (0, [.int 0, .int (-1), .int 0, .ref qs])), (qs, .inr (1, [.int 0, .ref es, .int 0]))] H1 := hP
  have hD : va_D A [(m0, .inr (10, [.int th, .ref qu, .ref qs, .ref qc, .ref qp, .int dy, .int (-1), .int 0, .null])), (it_1, .inr (0, [.int 0, .int (-1), .int 0, .ref qs])), (q_5, .inl (cA_6, 4, .inl (fun _ => 0))), (qc, .inr (1, [.int 0, .ref ec, .int 0])), (it_11, .inr (0, [.int 0, .int (-1), .int 0, .ref qu])), (qu, .inr (1, [.int 0, .ref eu, .int 0])), (it_15, .inr (0, [.int 0, .int (-1), .int 0, .ref qs])), (qs, .inr (1, [.int 0, .ref es, .int 0]))] := hD
  have hK : va_K D vwCl [(cA_6, .boolean)] s := hK
  clear hS1
  obtain rfl : r_17 = 0 := hw_17
  refine lv_if_eq (tgt := 409) hx hb dX8_goesOn_388 (by decide) (fun c_18 => ?_) (fun c_18 => absurd (by decide) c_18)
  refine lv_aload_n hx hb dX8_goesOn_409 rfl (lv_at hl 2 rfl) ?_
  refine lv_dup hx hb dX8_goesOn_410 rfl ?_
  refine va_get (D := D) (ci := 10) (v := .int dy) (C := RX8) (T := TX8) (N := 9) hx hb hts zin_X8 hown hK hP 0 rfl rfl 5 (by decide) (hts _ zw_1085) (fun _ h9 => h9) rfl dX8_goesOn_411 ?_
  refine lv_iconst (v := 1) hx hb dX8_goesOn_414 (by decide) ?_
  refine lv_iadd hx hb dX8_goesOn_415 ?_
  refine lv_topi (fun x_19 ex_19 => ?_)
  refine va_put (D := D) (ci := 10) (v := .int x_19) (ty := .int) (C := RX8) (T := TX8) (N := 9) hx hb hts zin_X8 tyX8 tyX8_ok nmX8 hown hK hP hD hS 0 rfl rfl 5 (by decide) (hts _ zw_1085) (fun _ h9 => h9) rfl (by decide +kernel) rfl rfl (Nat.le_of_ble_eq_true rfl) dX8_goesOn_416 (fun H locs hP hD hS => ?_)
  have hP : va_P D vwCl [(m0, .inr (10, [.int th, .ref qu, .ref qs, .ref qc, .ref qp, .int x_19, .int (-1), .int 0, .null])), (it_1, .inr (0, [.int 0, .int (-1), .int 0, .ref qs])), (q_5, .inl (cA_6, 4, .inl (fun _ => 0))), (qc, .inr (1, [.int 0, .ref ec, .int 0])), (it_11, .inr (0, [.int 0, .int (-1), .int 0, .ref qu])), (qu, .inr (1, [.int 0, .ref eu, .int 0])), (it_15, .inr (0, [.int 0, .int (-1), .int 0, .ref qs])), (qs, .inr (1, [.int 0, .ref es, .int 0]))] H := hP
  have hD : va_D A [(m0, .inr (10, [.int th, .ref qu, .ref qs, .ref qc, .ref qp, .int x_19, .int (-1), .int 0, .null])), (it_1, .inr (0, [.int 0, .int (-1), .int 0, .ref qs])), (q_5, .inl (cA_6, 4, .inl (fun _ => 0))), (qc, .inr (1, [.int 0, .ref ec, .int 0])), (it_11, .inr (0, [.int 0, .int (-1), .int 0, .ref qu])), (qu, .inr (1, [.int 0, .ref eu, .int 0])), (it_15, .inr (0, [.int 0, .int (-1), .int 0, .ref qs])), (qs, .inr (1, [.int 0, .ref es, .int 0]))] := hD
  subst ex_19
  exact W.vret hx hb hr (fun t ht hW => ⟨⟨(), rfl, trivial, z_end hP hK hD [0, 5, 7, 3] rfl rfl [] rfl ht hW.alike⟩, hS.F ht⟩) hS.2.2 dX8_goesOn_419
theorem z_pa999 : ∀ N : Nat, N ≤ 30 → (0 : Int32) + nI N ≤ 999 := by
  intro N h
  have h2 : ∀ N : Nat, N < 31 → (0 : Int32) + nI N ≤ 999 := by decide +kernel
  exact h2 N (by omega)
theorem dX8_pass_0 : decode cX8_pass 0 = .ok (.iconst 0, 1) := by decide +kernel
theorem dX8_pass_1 : decode cX8_pass 1 = .ok (.istore_n 2, 1) := by decide +kernel
theorem dX8_pass_2 : decode cX8_pass 2 = .ok (.aload_n 0, 1) := by decide +kernel
theorem dX8_pass_3 : decode cX8_pass 3 = .ok (.getfield 16, 3) := by decide +kernel
theorem dX8_pass_6 : decode cX8_pass 6 = .ok (.invokevirtual 85, 3) := by decide +kernel
theorem dX8_pass_9 : decode cX8_pass 9 = .ok (.astore_n 3, 1) := by decide +kernel
theorem dX8_pass_10 : decode cX8_pass 10 = .ok (.aload_n 3, 1) := by decide +kernel
theorem dX8_pass_11 : decode cX8_pass 11 = .ok (.invokeinterface 89 1, 5) := by decide +kernel
theorem dX8_pass_16 : decode cX8_pass 16 = .ok (.ifCond .eq 63, 3) := by decide +kernel
theorem dX8_pass_79 : decode cX8_pass 79 = .ok (.aload_n 0, 1) := by decide +kernel
theorem dX8_pass_80 : decode cX8_pass 80 = .ok (.iload_n 1, 1) := by decide +kernel
theorem dX8_pass_81 : decode cX8_pass 81 = .ok (.i2l, 1) := by decide +kernel
theorem dX8_pass_82 : decode cX8_pass 82 = .ok (.lconst 1, 1) := by decide +kernel
theorem dX8_pass_83 : decode cX8_pass 83 = .ok (.ldc2_w 136, 3) := by decide +kernel
theorem dX8_pass_86 : decode cX8_pass 86 = .ok (.invokestatic 37, 3) := by decide +kernel
theorem dX8_pass_89 : decode cX8_pass 89 = .ok (.ifCond .ne 7, 3) := by decide +kernel
theorem dX8_pass_96 : decode cX8_pass 96 = .ok (.iload_n 2, 1) := by decide +kernel
theorem dX8_pass_97 : decode cX8_pass 97 = .ok (.ifCond .eq 7, 3) := by decide +kernel
theorem dX8_pass_104 : decode cX8_pass 104 = .ok (.aload_n 0, 1) := by decide +kernel
theorem dX8_pass_105 : decode cX8_pass 105 = .ok (.getfield 105, 3) := by decide +kernel
theorem dX8_pass_108 : decode cX8_pass 108 = .ok (.iload_n 1, 1) := by decide +kernel
theorem dX8_pass_109 : decode cX8_pass 109 = .ok (.iadd, 1) := by decide +kernel
theorem dX8_pass_110 : decode cX8_pass 110 = .ok (.sipush 999, 3) := by decide +kernel
theorem dX8_pass_113 : decode cX8_pass 113 = .ok (.if_icmp .le 7, 3) := by decide +kernel
theorem dX8_pass_120 : decode cX8_pass 120 = .ok (.iconst 0, 1) := by decide +kernel
theorem dX8_pass_121 : decode cX8_pass 121 = .ok (.putfield 30, 3) := by decide +kernel
theorem dX8_pass_124 : decode cX8_pass 124 = .ok (.iconst 0, 1) := by decide +kernel
theorem dX8_pass_125 : decode cX8_pass 125 = .ok (.istore_n 3, 1) := by decide +kernel
theorem dX8_pass_126 : decode cX8_pass 126 = .ok (.iload_n 3, 1) := by decide +kernel
theorem dX8_pass_127 : decode cX8_pass 127 = .ok (.iload_n 1, 1) := by decide +kernel
theorem dX8_pass_128 : decode cX8_pass 128 = .ok (.if_icmp .ge 20, 3) := by decide +kernel
theorem dX8_pass_148 : decode cX8_pass 148 = .ok (.aload_n 0, 1) := by decide +kernel
theorem dX8_pass_149 : decode cX8_pass 149 = .ok (.getfield 30, 3) := by decide +kernel
theorem dX8_pass_152 : decode cX8_pass 152 = .ok (.ifCond .le 7, 3) := by decide +kernel
theorem dX8_pass_159 : decode cX8_pass 159 = .ok (.aload_n 0, 1) := by decide +kernel
theorem dX8_pass_160 : decode cX8_pass 160 = .ok (.getfield 105, 3) := by decide +kernel
theorem dX8_pass_163 : decode cX8_pass 163 = .ok (.ireturn, 1) := by decide +kernel
theorem dX8_pass_131 : decode cX8_pass 131 = .ok (.aload_n 0, 1) := by decide +kernel
theorem dX8_pass_132 : decode cX8_pass 132 = .ok (.getfield 30, 3) := by decide +kernel
theorem dX8_pass_135 : decode cX8_pass 135 = .ok (.ifCond .ne 13, 3) := by decide +kernel
theorem dX8_pass_138 : decode cX8_pass 138 = .ok (.aload_n 0, 1) := by decide +kernel
theorem dX8_pass_139 : decode cX8_pass 139 = .ok (.invokevirtual 253, 3) := by decide +kernel
theorem zw_1539 : Cond.methodLink RX8 253 yX8_goesOn ∈ z_Ts := z_m 1539 (by decide +kernel) (by decide +kernel)
theorem zw_1541 : Cond.instanceMethod yX8_goesOn ∈ z_Ts := z_m 1541 (by decide +kernel) (by decide +kernel)
theorem zw_80 : Cond.selects RX8 yX8_goesOn yX8_goesOn ∈ z_Ts := z_m 80 (by decide +kernel) (by decide +kernel)
theorem zw_1542 : Cond.code yX8_goesOn cX8_goesOn 8 none ∈ z_Ts := z_m 1542 (by decide +kernel) (by decide +kernel)
theorem dX8_pass_142 : decode cX8_pass 142 = .ok (.iinc 3 1, 3) := by decide +kernel
theorem dX8_pass_145 : decode cX8_pass 145 = .ok (.goto (-19), 3) := by decide +kernel
theorem dX8_pass_92 : decode cX8_pass 92 = .ok (.iconst 1, 1) := by decide +kernel
theorem dX8_pass_93 : decode cX8_pass 93 = .ok (.goto 28, 3) := by decide +kernel
theorem dX8_pass_155 : decode cX8_pass 155 = .ok (.iconst 0, 1) := by decide +kernel
theorem dX8_pass_156 : decode cX8_pass 156 = .ok (.goto 7, 3) := by decide +kernel
set_option maxHeartbeats 4000000 in
set_option maxRecDepth 100000 in
theorem g_X8_pass (l : Launch) (D : va_G) (m0 : Nat) (qu : Nat) (qs : Nat) (qc : Nat) (qp : Nat) (th : Int32) (eu : Nat) (es : Nat) (ec : Nat) (a0 : Int32) (sz : Nat)  : Met l yX8_pass [Cond.code yX8_pass cX8_pass 5 (some .int)] ({ frames := 4, cells := 121, slots := 484, locals := 150 }) (z_Pc D [.ref m0, .int a0] [(m0, .inr (10, [.int th, .ref qu, .ref qs, .ref qc, .ref qp, .int 0, .int (-1), .int 0, .null])), (qu, .inr (1, [.int 0, .ref eu, .int 0])), (qs, .inr (1, [.int 0, .ref es, .int 0])), (qc, .inr (1, [.int 0, .ref ec, .int 0]))] [] sz) (va_Qi (fun (r : Int32) (_ : Unit) => (1 ≤ a0.toInt64 ∧ a0.toInt64 ≤ 30) → r = a0) (fun _ t => ∃ t1 : Int32, ∃ t2 : Int32, t1 = (if (1 ≤ a0.toInt64 ∧ a0.toInt64 ≤ 30) then 0 else 1) ∧ z_W D [(m0, .inr (10, [.int t1, .ref qu, .ref qs, .ref qc, .ref qp, .int t2, .int (-1), .int 0, .null]))] [] (va_A [(m0, .inr (10, [.int th, .ref qu, .ref qs, .ref qc, .ref qp, .int 0, .int (-1), .int 0, .null])), (qu, .inr (1, [.int 0, .ref eu, .int 0])), (qs, .inr (1, [.int 0, .ref es, .int 0])), (qc, .inr (1, [.int 0, .ref ec, .int 0]))] sz) t) (va_A [(m0, .inr (10, [.int th, .ref qu, .ref qs, .ref qc, .ref qp, .int 0, .int (-1), .int 0, .null])), (qu, .inr (1, [.int 0, .ref eu, .int 0])), (qs, .inr (1, [.int 0, .ref es, .int 0])), (qc, .inr (1, [.int 0, .ref ec, .int 0]))] sz)) 121 484 (va_A [(m0, .inr (10, [.int th, .ref qu, .ref qs, .ref qc, .ref qp, .int 0, .int (-1), .int 0, .null])), (qu, .inr (1, [.int 0, .ref eu, .int 0])), (qs, .inr (1, [.int 0, .ref es, .int 0])), (qc, .inr (1, [.int 0, .ref ec, .int 0]))] sz) := by
  refine Met.ofW (cc := cX8_pass) (maxL := 5) (ret := (some .int)) (by decide +kernel) rfl ?_
  intro p e s m args below meth c s₁ B hml hv
  obtain ⟨rfl, hsz, hP, hK, hD0, hE, hX0⟩ := hv
  have hx := B.exec
  have hb := B.bytes
  have hr := B.returns
  have hts := z_E.ts (args := [.ref m0, .int a0].toArray) hE
  have hown : s.vm.findClass RX8 = some m.cls := findClass_of_methodNamed B.named
  have hlocks := B.notSynchronized
  subst hsz
  have hD := hD0.self (sz := s.heap.size)
  generalize hAe : va_A [(m0, .inr (10, [.int th, .ref qu, .ref qs, .ref qc, .ref qp, .int 0, .int (-1), .int 0, .null])), (qu, .inr (1, [.int 0, .ref eu, .int 0])), (qs, .inr (1, [.int 0, .ref es, .int 0])), (qc, .inr (1, [.int 0, .ref ec, .int 0]))] s.heap.size = A at hD hX0 ⊢
  have hX : z_X D A s s.heap := hX0
  have hA : ∀ q : Nat, s.heap.size ≤ q → A q := fun q h => by rw [← hAe]; exact Or.inr h
  have hS : va_S A s.heap s.heap [] := va_S.rf
  have hP : va_P D vwCl [(m0, .inr (10, [.int th, .ref qu, .ref qs, .ref qc, .ref qp, .int 0, .int (-1), .int 0, .null])), (qu, .inr (1, [.int 0, .ref eu, .int 0])), (qs, .inr (1, [.int 0, .ref es, .int 0])), (qc, .inr (1, [.int 0, .ref ec, .int 0]))] s.heap := hP
  have hl := lv_entry ([.ref m0, .int a0]) (n := 5) (Nat.le_of_ble_eq_true rfl)
  rw [lg_entry_eq]
  generalize (lg_sl ([.ref m0, .int a0]) ++ List.replicate (5 - (lg_sl ([.ref m0, .int a0])).length) Slot.unset).toArray = ls at hl ⊢
  have hl : lv_has ls 5 [(0, .ref m0), (1, .int a0)] := hl
  skip
  refine lv_iconst (v := 0) hx hb dX8_pass_0 (by decide) ?_
  refine lv_istore_n (lv' := [(2, .int 0), (0, .ref m0), (1, .int a0)]) hx hb dX8_pass_1 rfl hl (by decide) rfl (fun ls hl => ?_)
  refine lv_aload_n hx hb dX8_pass_2 rfl (lv_at hl 1 rfl) ?_
  refine va_get (D := D) (ci := 10) (v := .ref qs) (C := RX8) (T := TX8) (N := 9) hx hb hts zin_X8 hown hK hP 0 rfl rfl 2 (by decide) (hts _ zw_1082) (fun _ h9 => h9) rfl dX8_pass_3 ?_
  obtain ⟨hb_2, hc_2⟩ := z_call (wc := [(qs, .inr (1, [.int 0, .ref es, .int 0]))]) (tc := []) ([.ref qs]) hP hK hD hS hA hE hX [2] rfl rfl [] rfl
  have hF_2 := va_free (wc := [(qs, .inr (1, [.int 0, .ref es, .int 0]))]) hD hS hA [2] rfl
  refine va_callr (va_runV (As := []) (rest := []) ⟨hx, hb, hml, hown, hts⟩ (c_al_iterator l D qs es _ ) (z_cV 0 hE zw_1256 zw_1257 zw_1258 zw_99 zw_1259 rfl rfl rfl (by decide +kernel) ⟨(Nat.le_of_ble_eq_true rfl), (Nat.le_of_ble_eq_true rfl)⟩) ⟨hb_2, va_recv hK hP (ci := 1) (q0 := 2) rfl rfl, hc_2⟩ rfl rfl hl.1 rfl (lv_room (Nat.le_of_ble_eq_true rfl)) dX8_pass_6 ⟨(Nat.le_of_ble_eq_true rfl), (Nat.le_of_ble_eq_true rfl)⟩) hS (fun q _ h => hF_2 q h) hF_2 (fun u_2 it_1 t_2 H1 locs ht_2 hvm_2 hw_2 hB_2 hz_2 hk_2 hS1 => ?_)
  obtain ⟨hP, hK, hD⟩ := z_back (wc := [(qs, .inr (1, [.int 0, .ref es, .int 0]))]) (wr := [(m0, .inr (10, [.int th, .ref qu, .ref qs, .ref qc, .ref qp, .int 0, .int (-1), .int 0, .null])), (qu, .inr (1, [.int 0, .ref eu, .int 0])), (qc, .inr (1, [.int 0, .ref ec, .int 0]))]) (w1 := [(qs, .inr (1, [.int 0, .ref es, .int 0])), (it_1, .inr (0, [.int 0, .int (-1), .int 0, .ref qs]))]) (tr := []) hP hK hD [2] [0, 1, 3] rfl rfl rfl (by decide) ht_2 hvm_2 hk_2 hF_2 [] rfl hB_2
  have hS := hS1
  have hP : va_P D vwCl [(m0, .inr (10, [.int th, .ref qu, .ref qs, .ref qc, .ref qp, .int 0, .int (-1), .int 0, .null])), (qu, .inr (1, [.int 0, .ref eu, .int 0])), (qc, .inr (1, [.int 0, .ref ec, .int 0])), (qs, .inr (1, [.int 0, .ref es, .int 0])), (it_1, .inr (0, [.int 0, .int (-1), .int 0, .ref qs]))] H1 := hP
  have hD : va_D A [(m0, .inr (10, [.int th, .ref qu, .ref qs, .ref qc, .ref qp, .int 0, .int (-1), .int 0, .null])), (qu, .inr (1, [.int 0, .ref eu, .int 0])), (qc, .inr (1, [.int 0, .ref ec, .int 0])), (qs, .inr (1, [.int 0, .ref es, .int 0])), (it_1, .inr (0, [.int 0, .int (-1), .int 0, .ref qs]))] := hD
  have hK : va_K D vwCl [] s := hK
  clear hS1
  refine lv_astore_n (lv' := [(3, .ref it_1), (2, .int 0), (0, .ref m0), (1, .int a0)]) hx hb dX8_pass_9 rfl hl (by decide) rfl (fun ls hl => ?_)
  refine lv_aload_n hx hb dX8_pass_10 rfl (lv_at hl 0 rfl) ?_
  obtain ⟨hb_3, hc_3⟩ := z_call (wc := [(it_1, .inr (0, [.int 0, .int (-1), .int 0, .ref qs])), (qs, .inr (1, [.int 0, .ref es, .int 0]))]) (tc := []) ([.ref it_1]) hP hK hD hS hA hE hX [4, 3] rfl rfl [] rfl
  have hF_3 := va_free (wc := [(it_1, .inr (0, [.int 0, .int (-1), .int 0, .ref qs])), (qs, .inr (1, [.int 0, .ref es, .int 0]))]) hD hS hA [4, 3] rfl
  refine va_callFi (va_runF (As := []) (rest := []) (hK.1 0 _ rfl).2 ⟨hx, hb, hml, hown, hts⟩ (c_itr_hasNext l D it_1 qs es _) (z_cF 0 hE zw_1280 zw_1284 zw_1286 zw_115 zw_1288 rfl rfl rfl (hX.2.1.1) (by decide +kernel) ⟨(Nat.le_of_ble_eq_true rfl), (Nat.le_of_ble_eq_true rfl)⟩) ⟨hb_3, va_recv hK hP (ci := 0) (q0 := 4) rfl rfl, hc_3⟩ rfl rfl hl.1 rfl (lv_room (Nat.le_of_ble_eq_true rfl)) dX8_pass_11 ⟨(Nat.le_of_ble_eq_true rfl), (Nat.le_of_ble_eq_true rfl)⟩) hS (fun q _ h => hF_3 q h) hF_3 (fun r_3 u_3 t_3 H1 locs ht_3 hvm_3 hw_3 hB_3 hz_3 hk_3 hS1 => ?_)
  obtain ⟨hP, hK, hD⟩ := z_back (wc := [(it_1, .inr (0, [.int 0, .int (-1), .int 0, .ref qs])), (qs, .inr (1, [.int 0, .ref es, .int 0]))]) (wr := [(m0, .inr (10, [.int th, .ref qu, .ref qs, .ref qc, .ref qp, .int 0, .int (-1), .int 0, .null])), (qu, .inr (1, [.int 0, .ref eu, .int 0])), (qc, .inr (1, [.int 0, .ref ec, .int 0]))]) (w1 := [(it_1, .inr (0, [.int 0, .int (-1), .int 0, .ref qs])), (qs, .inr (1, [.int 0, .ref es, .int 0]))]) (tr := []) hP hK hD [4, 3] [0, 1, 2] rfl rfl rfl (by decide) ht_3 hvm_3 hk_3 hF_3 [] rfl hB_3
  have hS := hS1
  have hP : va_P D vwCl [(m0, .inr (10, [.int th, .ref qu, .ref qs, .ref qc, .ref qp, .int 0, .int (-1), .int 0, .null])), (qu, .inr (1, [.int 0, .ref eu, .int 0])), (qc, .inr (1, [.int 0, .ref ec, .int 0])), (it_1, .inr (0, [.int 0, .int (-1), .int 0, .ref qs])), (qs, .inr (1, [.int 0, .ref es, .int 0]))] H1 := hP
  have hD : va_D A [(m0, .inr (10, [.int th, .ref qu, .ref qs, .ref qc, .ref qp, .int 0, .int (-1), .int 0, .null])), (qu, .inr (1, [.int 0, .ref eu, .int 0])), (qc, .inr (1, [.int 0, .ref ec, .int 0])), (it_1, .inr (0, [.int 0, .int (-1), .int 0, .ref qs])), (qs, .inr (1, [.int 0, .ref es, .int 0]))] := hD
  have hK : va_K D vwCl [] s := hK
  clear hS1
  obtain rfl : r_3 = 0 := hw_3
  refine lv_if_eq (tgt := 79) hx hb dX8_pass_16 (by decide) (fun c_4 => ?_) (fun c_4 => absurd (by decide) c_4)
  refine lv_aload_n hx hb dX8_pass_79 rfl (lv_at hl 2 rfl) ?_
  refine lv_iload_n hx hb dX8_pass_80 rfl (lv_at hl 3 rfl) ?_
  refine lv_i2l hx hb dX8_pass_81 rfl ?_
  refine lv_lconst (v := 1) hx hb dX8_pass_82 (by decide) ?_
  refine lv_ldc2 hx hb hown (hts _ zw_1379) dX8_pass_83 ?_
  obtain ⟨hb_5, hc_5⟩ := z_call (wc := []) (tc := []) ([.long (a0).toInt64, .long 1, .long 30]) hP hK hD hS hA hE hX [] rfl rfl [] rfl
  have hF_5 := va_free (wc := []) hD hS hA [] rfl
  refine va_calli (va_runS (As := [.long (a0).toInt64, .long 1, .long 30]) (rest := [.ref m0]) ⟨hx, hb, hml, hown, hts⟩ (c_X8_in l D ((a0).toInt64) 1 30 _ ) (⟨z_cB 3 hE zw_1118 zw_96 zw_1120 rfl rfl rfl (by decide +kernel) ⟨(Nat.le_of_ble_eq_true rfl), (Nat.le_of_ble_eq_true rfl)⟩, hE.ts _ zw_1119⟩) ⟨hb_5, hc_5⟩ rfl rfl hl.1 rfl (lv_room (Nat.le_of_ble_eq_true rfl)) dX8_pass_86 ⟨(Nat.le_of_ble_eq_true rfl), (Nat.le_of_ble_eq_true rfl)⟩) hS (fun q _ h => hF_5 q h) hF_5 (fun r_5 u_5 t_5 H1 locs ht_5 hvm_5 hw_5 hB_5 hz_5 hk_5 hS1 => ?_)
  obtain ⟨hP, hK, hD⟩ := z_back (wc := []) (wr := [(m0, .inr (10, [.int th, .ref qu, .ref qs, .ref qc, .ref qp, .int 0, .int (-1), .int 0, .null])), (qu, .inr (1, [.int 0, .ref eu, .int 0])), (qc, .inr (1, [.int 0, .ref ec, .int 0])), (it_1, .inr (0, [.int 0, .int (-1), .int 0, .ref qs])), (qs, .inr (1, [.int 0, .ref es, .int 0]))]) (w1 := []) (tr := []) hP hK hD [] [0, 1, 2, 3, 4] rfl rfl rfl (by decide) ht_5 hvm_5 hk_5 hF_5 [] rfl hB_5
  have hS := hS1
  have hP : va_P D vwCl [(m0, .inr (10, [.int th, .ref qu, .ref qs, .ref qc, .ref qp, .int 0, .int (-1), .int 0, .null])), (qu, .inr (1, [.int 0, .ref eu, .int 0])), (qc, .inr (1, [.int 0, .ref ec, .int 0])), (it_1, .inr (0, [.int 0, .int (-1), .int 0, .ref qs])), (qs, .inr (1, [.int 0, .ref es, .int 0]))] H1 := hP
  have hD : va_D A [(m0, .inr (10, [.int th, .ref qu, .ref qs, .ref qc, .ref qp, .int 0, .int (-1), .int 0, .null])), (qu, .inr (1, [.int 0, .ref eu, .int 0])), (qc, .inr (1, [.int 0, .ref ec, .int 0])), (it_1, .inr (0, [.int 0, .int (-1), .int 0, .ref qs])), (qs, .inr (1, [.int 0, .ref es, .int 0]))] := hD
  have hK : va_K D vwCl [] s := hK
  clear hS1
  rcases hw_5 with ⟨rfl, g5⟩ | ⟨rfl, g5⟩
  · have gk := g5
    obtain ⟨N, hN1, hN2, hN3⟩ := z_sm (lo := 1) (hi := 30) (by decide) (by decide) (by decide) gk
    subst hN3
    refine lv_if_ne (tgt := 96) hx hb dX8_pass_89 (by decide) (fun c_6 => ?_) (fun c_6 => absurd c_6 (by decide))
    refine lv_iload_n hx hb dX8_pass_96 rfl (lv_at hl 1 rfl) ?_
    refine lv_if_eq (tgt := 104) hx hb dX8_pass_97 (by decide) (fun c_7 => ?_) (fun c_7 => absurd (by decide) c_7)
    refine lv_aload_n hx hb dX8_pass_104 rfl (lv_at hl 2 rfl) ?_
    refine va_get (D := D) (ci := 10) (v := .int 0) (C := RX8) (T := TX8) (N := 9) hx hb hts zin_X8 hown hK hP 0 rfl rfl 5 (by decide) (hts _ zw_1085) (fun _ h9 => h9) rfl dX8_pass_105 ?_
    refine lv_iload_n hx hb dX8_pass_108 rfl (lv_at hl 3 rfl) ?_
    refine lv_iadd hx hb dX8_pass_109 ?_
    refine lv_topi (fun x_8 ex_8 => ?_)
    refine lv_sipush (v := 999) hx hb dX8_pass_110 (by decide) ?_
    refine lv_icmp_le (tgt := 120) hx hb dX8_pass_113 (by decide) (fun c_9 => ?_) (fun c_9 => absurd (by rw [ex_8]; exact z_pa999 N (by omega)) c_9)
    refine lv_iconst (v := 0) hx hb dX8_pass_120 (by decide) ?_
    refine va_put (D := D) (ci := 10) (v := .int 0) (ty := .int) (C := RX8) (T := TX8) (N := 9) hx hb hts zin_X8 tyX8 tyX8_ok nmX8 hown hK hP hD hS 0 rfl rfl 0 (by decide) (hts _ zw_1080) (fun _ h9 => h9) rfl (by decide +kernel) rfl rfl (Nat.le_of_ble_eq_true rfl) dX8_pass_121 (fun H locs hP hD hS => ?_)
    have hP : va_P D vwCl [(m0, .inr (10, [.int 0, .ref qu, .ref qs, .ref qc, .ref qp, .int 0, .int (-1), .int 0, .null])), (qu, .inr (1, [.int 0, .ref eu, .int 0])), (qc, .inr (1, [.int 0, .ref ec, .int 0])), (it_1, .inr (0, [.int 0, .int (-1), .int 0, .ref qs])), (qs, .inr (1, [.int 0, .ref es, .int 0]))] H := hP
    have hD : va_D A [(m0, .inr (10, [.int 0, .ref qu, .ref qs, .ref qc, .ref qp, .int 0, .int (-1), .int 0, .null])), (qu, .inr (1, [.int 0, .ref eu, .int 0])), (qc, .inr (1, [.int 0, .ref ec, .int 0])), (it_1, .inr (0, [.int 0, .int (-1), .int 0, .ref qs])), (qs, .inr (1, [.int 0, .ref es, .int 0]))] := hD
    refine lv_iconst (v := 0) hx hb dX8_pass_124 (by decide) ?_
    refine lv_istore_n (lv' := [(3, .int 0), (2, .int 0), (0, .ref m0), (1, .int (nI N))]) hx hb dX8_pass_125 rfl hl (by decide) rfl (fun ls hl => ?_)
    have e0 : nI 0 = 0 := nI_0
    have hP := hP.sub (ws' := [(m0, .inr (10, [.int 0, .ref qu, .ref qs, .ref qc, .ref qp, .int 0, .int (-1), .int 0, .null])), (qu, .inr (1, [.int 0, .ref eu, .int 0])), (qc, .inr (1, [.int 0, .ref ec, .int 0])), (qs, .inr (1, [.int 0, .ref es, .int 0]))]) [0, 1, 2, 4] rfl
    have hD := hD.sub (ws' := [(m0, .inr (10, [.int 0, .ref qu, .ref qs, .ref qc, .ref qp, .int 0, .int (-1), .int 0, .null])), (qu, .inr (1, [.int 0, .ref eu, .int 0])), (qc, .inr (1, [.int 0, .ref ec, .int 0])), (qs, .inr (1, [.int 0, .ref es, .int 0]))]) [0, 1, 2, 4] rfl rfl
    have loop : ∀ (n i : Nat), i + n = N → ∀ (H : Heap) (locs : List Loc) (ls : Array Slot), va_P D vwCl [(m0, .inr (10, [.int 0, .ref qu, .ref qs, .ref qc, .ref qp, .int (nI i), .int (-1), .int 0, .null])), (qu, .inr (1, [.int 0, .ref eu, .int 0])), (qs, .inr (1, [.int 0, .ref es, .int 0])), (qc, .inr (1, [.int 0, .ref ec, .int 0]))] H → va_D A [(m0, .inr (10, [.int 0, .ref qu, .ref qs, .ref qc, .ref qp, .int (nI i), .int (-1), .int 0, .null])), (qu, .inr (1, [.int 0, .ref eu, .int 0])), (qs, .inr (1, [.int 0, .ref es, .int 0])), (qc, .inr (1, [.int 0, .ref ec, .int 0]))] → va_S A s.heap H locs → lv_has ls 5 [(3, .int (nI i)), (0, .ref m0), (1, .int (nI N)), (2, .int 0)] → W p l e (headSpec [Cond.code yX8_pass cX8_pass 5 (some .int)] ({ frames := 4, cells := 121, slots := 484, locals := 150 })).room s m [.ref m0, .int (nI N)].toArray below meth c H locs (1 + 4 * i) (4 + 16 * i) (MQ below (va_Qi (fun (r : Int32) (_ : Unit) => (1 ≤ (nI N).toInt64 ∧ (nI N).toInt64 ≤ 30) → r = (nI N)) (fun _ t => ∃ t1 : Int32, ∃ t2 : Int32, t1 = (if (1 ≤ (nI N).toInt64 ∧ (nI N).toInt64 ≤ 30) then 0 else 1) ∧ z_W D [(m0, .inr (10, [.int t1, .ref qu, .ref qs, .ref qc, .ref qp, .int t2, .int (-1), .int 0, .null]))] [] A t) A) [.ref m0, .int (nI N)].toArray s 121 484 A) (F0 m 126 ls []) := by
      intro n
      induction n with
      | zero =>
        intro i hi H locs ls hP hD hS hl
        obtain rfl : i = N := hi
        refine lv_iload_n hx hb dX8_pass_126 rfl (lv_at hl 0 rfl) ?_
        refine lv_iload_n hx hb dX8_pass_127 rfl (lv_at hl 2 rfl) ?_
        refine lv_icmp_ge (tgt := 148) hx hb dX8_pass_128 (by decide) (fun c_10 => ?_) (fun c_10 => absurd (Int32.le_refl _) c_10)
        refine lv_aload_n hx hb dX8_pass_148 rfl (lv_at hl 1 rfl) ?_
        refine va_get (D := D) (ci := 10) (v := .int 0) (C := RX8) (T := TX8) (N := 9) hx hb hts zin_X8 hown hK hP 0 rfl rfl 0 (by decide) (hts _ zw_1080) (fun _ h9 => h9) rfl dX8_pass_149 ?_
        refine lv_if_le (tgt := 159) hx hb dX8_pass_152 (by decide) (fun c_11 => ?_) (fun c_11 => absurd (by decide) c_11)
        refine lv_aload_n hx hb dX8_pass_159 rfl (lv_at hl 1 rfl) ?_
        refine va_get (D := D) (ci := 10) (v := .int (nI i)) (C := RX8) (T := TX8) (N := 9) hx hb hts zin_X8 hown hK hP 0 rfl rfl 5 (by decide) (hts _ zw_1085) (fun _ h9 => h9) rfl dX8_pass_160 ?_
        refine W.widen (k := 121) (n := 484) (show (1 + 4 * i) ≤ 121 by omega) (show (4 + 16 * i) ≤ 484 by omega) ?_
        exact W.iret (v := (nI i)) hx hb hr (fun t ht hW => ⟨⟨(nI i), (), rfl, (fun _ => rfl), ⟨0, (nI i), (if_pos gk).symm, z_end hP hK hD [0] rfl rfl [] rfl ht hW.alike⟩⟩, hS.F ht⟩) hS.2.2 dX8_pass_163
      | succ n ih =>
        intro i hi H locs ls hP hD hS hl
        refine lv_iload_n hx hb dX8_pass_126 rfl (lv_at hl 0 rfl) ?_
        refine lv_iload_n hx hb dX8_pass_127 rfl (lv_at hl 2 rfl) ?_
        refine lv_icmp_ge (tgt := 148) hx hb dX8_pass_128 (by decide) (fun c_10 => absurd c_10 (nI_ge (by omega) (by omega))) (fun c_10 => ?_)
        refine lv_aload_n hx hb dX8_pass_131 rfl (lv_at hl 1 rfl) ?_
        refine va_get (D := D) (ci := 10) (v := .int 0) (C := RX8) (T := TX8) (N := 9) hx hb hts zin_X8 hown hK hP 0 rfl rfl 0 (by decide) (hts _ zw_1080) (fun _ h9 => h9) rfl dX8_pass_132 ?_
        refine lv_if_ne (tgt := 148) hx hb dX8_pass_135 (by decide) (fun c_11 => absurd (by decide) c_11) (fun c_11 => ?_)
        refine lv_aload_n hx hb dX8_pass_138 rfl (lv_at hl 1 rfl) ?_
        obtain ⟨hb_12, hc_12⟩ := z_call (wc := [(m0, .inr (10, [.int 0, .ref qu, .ref qs, .ref qc, .ref qp, .int (nI i), .int (-1), .int 0, .null])), (qu, .inr (1, [.int 0, .ref eu, .int 0])), (qs, .inr (1, [.int 0, .ref es, .int 0])), (qc, .inr (1, [.int 0, .ref ec, .int 0]))]) (tc := []) ([.ref m0]) hP hK hD hS hA hE hX [0, 1, 2, 3] rfl rfl [] rfl
        have hF_12 := va_free (wc := [(m0, .inr (10, [.int 0, .ref qu, .ref qs, .ref qc, .ref qp, .int (nI i), .int (-1), .int 0, .null])), (qu, .inr (1, [.int 0, .ref eu, .int 0])), (qs, .inr (1, [.int 0, .ref es, .int 0])), (qc, .inr (1, [.int 0, .ref ec, .int 0]))]) hD hS hA [0, 1, 2, 3] rfl
        refine va_callv (va_runV (As := []) (rest := []) ⟨hx, hb, hml, hown, hts⟩ (g_X8_goesOn l D m0 qu qs qc qp 0 eu es ec (nI i) _ ) (z_cV 0 hE zw_1539 zw_1541 zw_80 zw_96 zw_1542 rfl rfl rfl (by decide +kernel) ⟨(Nat.le_of_ble_eq_true rfl), (Nat.le_of_ble_eq_true rfl)⟩) ⟨hb_12, va_recv hK hP (ci := 10) (q0 := 0) rfl rfl, hc_12⟩ rfl rfl hl.1 rfl (lv_room (Nat.le_of_ble_eq_true rfl)) dX8_pass_139 ⟨(show (1 + 4 * i) + 4 ≤ 121 by omega), (show (4 + 16 * i) + 16 ≤ 484 by omega)⟩) hS (fun q _ h => hF_12 q h) hF_12 (fun u_12 t_12 H1 locs ht_12 hvm_12 hw_12 hB_12 hz_12 hk_12 hS1 => ?_)
        obtain ⟨hP, hK, hD⟩ := z_back (wc := [(m0, .inr (10, [.int 0, .ref qu, .ref qs, .ref qc, .ref qp, .int (nI i), .int (-1), .int 0, .null])), (qu, .inr (1, [.int 0, .ref eu, .int 0])), (qs, .inr (1, [.int 0, .ref es, .int 0])), (qc, .inr (1, [.int 0, .ref ec, .int 0]))]) (wr := []) (w1 := [(m0, .inr (10, [.int 0, .ref qu, .ref qs, .ref qc, .ref qp, .int ((nI i) + 1), .int (-1), .int 0, .null])), (qu, .inr (1, [.int 0, .ref eu, .int 0])), (qs, .inr (1, [.int 0, .ref es, .int 0])), (qc, .inr (1, [.int 0, .ref ec, .int 0]))]) (tr := []) hP hK hD [0, 1, 2, 3] [] rfl rfl rfl (by decide) ht_12 hvm_12 hk_12 hF_12 [] rfl hB_12
        have hS := hS1
        have hP : va_P D vwCl [(m0, .inr (10, [.int 0, .ref qu, .ref qs, .ref qc, .ref qp, .int ((nI i) + 1), .int (-1), .int 0, .null])), (qu, .inr (1, [.int 0, .ref eu, .int 0])), (qs, .inr (1, [.int 0, .ref es, .int 0])), (qc, .inr (1, [.int 0, .ref ec, .int 0]))] H1 := hP
        have hD : va_D A [(m0, .inr (10, [.int 0, .ref qu, .ref qs, .ref qc, .ref qp, .int ((nI i) + 1), .int (-1), .int 0, .null])), (qu, .inr (1, [.int 0, .ref eu, .int 0])), (qs, .inr (1, [.int 0, .ref es, .int 0])), (qc, .inr (1, [.int 0, .ref ec, .int 0]))] := hD
        have hK : va_K D vwCl [] s := hK
        clear hS1
        have hP : va_P D vwCl [(m0, .inr (10, [.int 0, .ref qu, .ref qs, .ref qc, .ref qp, .int (nI (i + 1)), .int (-1), .int 0, .null])), (qu, .inr (1, [.int 0, .ref eu, .int 0])), (qs, .inr (1, [.int 0, .ref es, .int 0])), (qc, .inr (1, [.int 0, .ref ec, .int 0]))] H1 := by rw [nI_1] at hP; exact hP
        have hD : va_D A [(m0, .inr (10, [.int 0, .ref qu, .ref qs, .ref qc, .ref qp, .int (nI (i + 1)), .int (-1), .int 0, .null])), (qu, .inr (1, [.int 0, .ref eu, .int 0])), (qs, .inr (1, [.int 0, .ref es, .int 0])), (qc, .inr (1, [.int 0, .ref ec, .int 0]))] := by rw [nI_1] at hD; exact hD
        obtain ⟨x_13, ex_13⟩ : ∃ y : Int32, y = (nI i) + 1 := ⟨_, rfl⟩
        refine lv_iinc (v := x_13) (lv' := [(3, .int x_13), (0, .ref m0), (1, .int (nI N)), (2, .int 0)]) hx hb dX8_pass_142 hl (k := 0) rfl (by rw [ex_13]; rfl) (by decide) rfl (fun ls hl => ?_)
        obtain rfl : x_13 = nI (i + 1) := ex_13.trans (nI_1 i)
        refine lv_goto (tgt := 126) hx hb dX8_pass_145 (by decide) ?_
        refine W.widen (k := (1 + 4 * (i + 1))) (n := (4 + 16 * (i + 1))) (by omega) (by omega) ?_
        exact ih (i + 1) (by omega) _ _ _ (hP.sub (ws' := [(m0, .inr (10, [.int 0, .ref qu, .ref qs, .ref qc, .ref qp, .int (nI (i + 1)), .int (-1), .int 0, .null])), (qu, .inr (1, [.int 0, .ref eu, .int 0])), (qs, .inr (1, [.int 0, .ref es, .int 0])), (qc, .inr (1, [.int 0, .ref ec, .int 0]))]) [0, 1, 2, 3] rfl) (hD.sub (ws' := [(m0, .inr (10, [.int 0, .ref qu, .ref qs, .ref qc, .ref qp, .int (nI (i + 1)), .int (-1), .int 0, .null])), (qu, .inr (1, [.int 0, .ref eu, .int 0])), (qs, .inr (1, [.int 0, .ref es, .int 0])), (qc, .inr (1, [.int 0, .ref ec, .int 0]))]) [0, 1, 2, 3] rfl rfl) hS (lv_sub hl [0, 1, 2, 3] rfl)
    refine W.widen (k := (1 + 4 * 0)) (n := (4 + 16 * 0)) (by decide) (by decide) ?_
    exact loop N 0 (by omega) _ _ _ (hP.sub (ws' := [(m0, .inr (10, [.int 0, .ref qu, .ref qs, .ref qc, .ref qp, .int (nI 0), .int (-1), .int 0, .null])), (qu, .inr (1, [.int 0, .ref eu, .int 0])), (qs, .inr (1, [.int 0, .ref es, .int 0])), (qc, .inr (1, [.int 0, .ref ec, .int 0]))]) [0, 1, 3, 2] rfl) (hD.sub (ws' := [(m0, .inr (10, [.int 0, .ref qu, .ref qs, .ref qc, .ref qp, .int (nI 0), .int (-1), .int 0, .null])), (qu, .inr (1, [.int 0, .ref eu, .int 0])), (qs, .inr (1, [.int 0, .ref es, .int 0])), (qc, .inr (1, [.int 0, .ref ec, .int 0]))]) [0, 1, 3, 2] rfl rfl) hS (lv_sub hl [0, 2, 3, 1] rfl)
  · refine lv_if_ne (tgt := 96) hx hb dX8_pass_89 (by decide) (fun c_6 => absurd (by decide) c_6) (fun c_6 => ?_)
    refine lv_iconst (v := 1) hx hb dX8_pass_92 (by decide) ?_
    refine lv_goto (tgt := 121) hx hb dX8_pass_93 (by decide) ?_
    refine va_put (D := D) (ci := 10) (v := .int 1) (ty := .int) (C := RX8) (T := TX8) (N := 9) hx hb hts zin_X8 tyX8 tyX8_ok nmX8 hown hK hP hD hS 0 rfl rfl 0 (by decide) (hts _ zw_1080) (fun _ h9 => h9) rfl (by decide +kernel) rfl rfl (Nat.le_of_ble_eq_true rfl) dX8_pass_121 (fun H locs hP hD hS => ?_)
    have hP : va_P D vwCl [(m0, .inr (10, [.int 1, .ref qu, .ref qs, .ref qc, .ref qp, .int 0, .int (-1), .int 0, .null])), (qu, .inr (1, [.int 0, .ref eu, .int 0])), (qc, .inr (1, [.int 0, .ref ec, .int 0])), (it_1, .inr (0, [.int 0, .int (-1), .int 0, .ref qs])), (qs, .inr (1, [.int 0, .ref es, .int 0]))] H := hP
    have hD : va_D A [(m0, .inr (10, [.int 1, .ref qu, .ref qs, .ref qc, .ref qp, .int 0, .int (-1), .int 0, .null])), (qu, .inr (1, [.int 0, .ref eu, .int 0])), (qc, .inr (1, [.int 0, .ref ec, .int 0])), (it_1, .inr (0, [.int 0, .int (-1), .int 0, .ref qs])), (qs, .inr (1, [.int 0, .ref es, .int 0]))] := hD
    refine lv_iconst (v := 0) hx hb dX8_pass_124 (by decide) ?_
    refine lv_istore_n (lv' := [(3, .int 0), (2, .int 0), (0, .ref m0), (1, .int a0)]) hx hb dX8_pass_125 rfl hl (by decide) rfl (fun ls hl => ?_)
    refine lv_iload_n hx hb dX8_pass_126 rfl (lv_at hl 0 rfl) ?_
    refine lv_iload_n hx hb dX8_pass_127 rfl (lv_at hl 3 rfl) ?_
    refine lv_icmp_ge (tgt := 148) hx hb dX8_pass_128 (by decide) (fun c_7 => ?_) (fun c_7 => ?_)
    · refine lv_aload_n hx hb dX8_pass_148 rfl (lv_at hl 2 rfl) ?_
      refine va_get (D := D) (ci := 10) (v := .int 1) (C := RX8) (T := TX8) (N := 9) hx hb hts zin_X8 hown hK hP 0 rfl rfl 0 (by decide) (hts _ zw_1080) (fun _ h9 => h9) rfl dX8_pass_149 ?_
      refine lv_if_le (tgt := 159) hx hb dX8_pass_152 (by decide) (fun c_8 => absurd c_8 (by decide)) (fun c_8 => ?_)
      refine lv_iconst (v := 0) hx hb dX8_pass_155 (by decide) ?_
      refine lv_goto (tgt := 163) hx hb dX8_pass_156 (by decide) ?_
      refine W.widen (k := 121) (n := 484) (Nat.le_of_ble_eq_true rfl) (Nat.le_of_ble_eq_true rfl) ?_
      exact W.iret (v := 0) hx hb hr (fun t ht hW => ⟨⟨0, (), rfl, (fun h => absurd h g5), ⟨1, 0, (if_neg g5).symm, z_end hP hK hD [0] rfl rfl [] rfl ht hW.alike⟩⟩, hS.F ht⟩) hS.2.2 dX8_pass_163
    · refine lv_aload_n hx hb dX8_pass_131 rfl (lv_at hl 2 rfl) ?_
      refine va_get (D := D) (ci := 10) (v := .int 1) (C := RX8) (T := TX8) (N := 9) hx hb hts zin_X8 hown hK hP 0 rfl rfl 0 (by decide) (hts _ zw_1080) (fun _ h9 => h9) rfl dX8_pass_132 ?_
      refine lv_if_ne (tgt := 148) hx hb dX8_pass_135 (by decide) (fun c_8 => ?_) (fun c_8 => absurd c_8 (by decide))
      refine lv_aload_n hx hb dX8_pass_148 rfl (lv_at hl 2 rfl) ?_
      refine va_get (D := D) (ci := 10) (v := .int 1) (C := RX8) (T := TX8) (N := 9) hx hb hts zin_X8 hown hK hP 0 rfl rfl 0 (by decide) (hts _ zw_1080) (fun _ h9 => h9) rfl dX8_pass_149 ?_
      refine lv_if_le (tgt := 159) hx hb dX8_pass_152 (by decide) (fun c_9 => absurd c_9 (by decide)) (fun c_9 => ?_)
      refine lv_iconst (v := 0) hx hb dX8_pass_155 (by decide) ?_
      refine lv_goto (tgt := 163) hx hb dX8_pass_156 (by decide) ?_
      refine W.widen (k := 121) (n := 484) (Nat.le_of_ble_eq_true rfl) (Nat.le_of_ble_eq_true rfl) ?_
      exact W.iret (v := 0) hx hb hr (fun t ht hW => ⟨⟨0, (), rfl, (fun h => absurd h g5), ⟨1, 0, (if_neg g5).symm, z_end hP hK hD [0] rfl rfl [] rfl ht hW.alike⟩⟩, hS.F ht⟩) hS.2.2 dX8_pass_163
