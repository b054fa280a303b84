theorem z_g32 {x lo hi : Int32} {lo64 hi64 : Int64} (h1 : lo.toInt64 = lo64) (h2 : hi.toInt64 = hi64) : (¬ x < lo ∧ x ≤ hi) ↔ (lo64 ≤ x.toInt64 ∧ x.toInt64 ≤ hi64) := by
  rw [← h1, ← h2, Int32.not_lt, Int32.le_iff_toInt_le, Int32.le_iff_toInt_le, Int64.le_iff_toInt_le, Int64.le_iff_toInt_le, Int32.toInt_toInt64, Int32.toInt_toInt64, Int32.toInt_toInt64]
/-- the words of a static call of a method with a table of handlers -/
theorem z_cSW {R : Room} {s : State} {args : Array Value} {own : String} {index : Nat} {y : MethodName} {bytes : ByteArray} {maxL : Nat} {ret : Option FieldType} {hh : List (Nat × Nat × Nat × Nat)} {rm : Room} {mc ms : Nat} (n : Nat) (hE : z_E s) (h1 : Cond.methodLink own index y ∈ z_Ts) (h2 : Cond.static y ∈ z_Ts) (h4 : Cond.initialized y.cls ∈ z_Ts) (h5 : Cond.codeWith y bytes maxL ret hh ∈ z_Ts) (hg : goodWord (Cond.codeWith y bytes maxL ret hh) = true) (hrc : rm.cells = mc) (hrs : rm.slots = ms)
    (hd : y.cls ≠ "java/lang/invoke/MethodHandle" ∧ y.cls ≠ "java/lang/invoke/VarHandle" ∧ (parseMethodDescriptor y.desc).map (fun d => d.parameters.length) = some n) (hR : rm.frames + 1 ≤ R.frames ∧ 8 + (maxL + 11) + rm.locals ≤ R.locals) : vx_CSW R s args own index y bytes maxL ret hh [Cond.codeWith y bytes maxL ret hh] rm mc ms n := by
  refine ⟨⟨hrc, hrs, hR.1, hR.2, fun w hw a' U hW => ?_, List.mem_cons_self⟩, hE.ts _ h5, hE.ts _ h4, ⟨hd.1, hd.2.1⟩, fun sig h => ?_, hE.ts _ h1, hE.ts _ h2⟩
  · cases List.mem_singleton.mp hw
    exact word_at hW (good_of_word hg) (hE.ts (args := args) _ h5)
  · have h2 := hd.2.2
    rw [h] at h2
    exact (Option.some.inj h2).symm
theorem dL_law_2663 : decode cL_law 2663 = .ok (.iinc 5 7, 3) := by decide +kernel
theorem dL_law_2666 : decode cL_law 2666 = .ok (.goto (-2638), 3) := by decide +kernel
theorem dL_law_28 : decode cL_law 28 = .ok (.iload 5, 2) := by decide +kernel
theorem dL_law_30 : decode cL_law 30 = .ok (.aload_n 0, 1) := by decide +kernel
theorem dL_law_31 : decode cL_law 31 = .ok (.arraylength, 1) := by decide +kernel
theorem dL_law_32 : decode cL_law 32 = .ok (.bipush 7, 2) := by decide +kernel
theorem dL_law_34 : decode cL_law 34 = .ok (.isub, 1) := by decide +kernel
theorem dL_law_35 : decode cL_law 35 = .ok (.if_icmp .gt 2634, 3) := by decide +kernel
theorem dL_law_2669 : decode cL_law 2669 = .ok (.iconst 1, 1) := by decide +kernel
theorem dL_law_2670 : decode cL_law 2670 = .ok (.ireturn, 1) := by decide +kernel
set_option maxHeartbeats 4000000 in
set_option maxRecDepth 100000 in
/-- the loop's head behind the one call: the script is over -/
theorem law_end {p : Program} {l : Launch} {e : Env} {s : State} {m : MethodId} {below : List Frame} {meth : Method} {c : Code} {b L : Nat} {xs : Nat → Int32} {A : Nat → Prop} (C0 : lw_At p s m meth c b L xs) (hL7 : L = 7) (hAF : ∀ q, A q → s.heap.size ≤ q) (hbA : ¬ A b) {H : Heap} {locs : List Loc} (hS : va_S A s.heap H locs) {ls : Array Slot} (hl : lv_has ls 9 [(5, .int 0), (0, .ref b)]) {cells slots : Nat} (hcells : cells ≤ 747229) (hslots : slots ≤ 6860549) : W p l e room_1 s m #[Value.ref b] below meth c H locs cells slots (lw_Z below #[Value.ref b] s) (F0 m 2663 ls []) := by
  obtain ⟨hx, hb, hr, hml, hown, hts0, hXs, hbl, hlocks, hgv⟩ := id C0
  have hown : s.vm.findClass RL = some m.cls := hown
  refine lv_iinc (v := 7) (lv' := [(5, .int 7), (0, .ref b)]) hx hb dL_law_2663 hl (k := 0) rfl (by decide) (by decide) rfl (fun ls hl => ?_)
  refine lv_goto (tgt := 28) hx hb dL_law_2666 (by decide) ?_
  refine lv_iload hx hb dL_law_28 (lv_at hl 0 rfl) ?_
  refine lv_aload_n hx hb dL_law_30 rfl (lv_at hl 1 rfl) ?_
  refine va_slen hx hb hXs hbl hbA hS dL_law_31 ?_
  refine lv_topi (fun x_1 ex_1 => ?_)
  obtain rfl : x_1 = 7 := ex_1.trans (by rw [hL7]; rfl)
  refine lv_bipush (v := 7) hx hb dL_law_32 (by decide) ?_
  refine lv_isub hx hb dL_law_34 ?_
  refine lv_topi (fun x_2 ex_2 => ?_)
  obtain rfl : x_2 = 0 := ex_2.trans (by first | rfl | decide | simp)
  refine lv_icmp_gt (tgt := 2669) hx hb dL_law_35 (by decide) (fun c_3 => ?_) (fun c_3 => absurd (by decide) c_3)
  refine lv_iconst (v := 1) hx hb dL_law_2669 (by decide) ?_
  refine va_forget (fun q hq => hAF _ (hS.2.2 q hq)) ?_
  refine W.widen (k := 747229) (n := 6860549) hcells hslots ?_
  exact lw_ret (d0 := s.drawn) (Drawn.sameBut.refl s.drawn lw_cs) hx hb hr hlocks dL_law_2670
set_option maxHeartbeats 4000000 in
set_option maxRecDepth 100000 in
theorem c_X8_thrown (l : Launch) (D : va_G) (m0 : Nat) (qu : Nat) (qs : Nat) (qc : Nat) (qp : Nat) (th : Int32) (dy : Int32) (stt : Int32) (bst : Int32) (bv : Value) (sz : Nat)  : Met l yX8_thrown [Cond.code yX8_thrown cX8_thrown 1 (some .int)] ({ frames := 0, cells := 0, slots := 0, locals := 0 }) (z_Pc D [.ref m0] [(m0, .inr (10, [.int th, .ref qu, .ref qs, .ref qc, .ref qp, .int dy, .int stt, .int bst, bv]))] [] sz) (va_Qi (fun (r : Int32) (_ : Unit) => r = th) (fun _ t => z_W D [(m0, .inr (10, [.int th, .ref qu, .ref qs, .ref qc, .ref qp, .int dy, .int stt, .int bst, bv]))] [] (va_A [(m0, .inr (10, [.int th, .ref qu, .ref qs, .ref qc, .ref qp, .int dy, .int stt, .int bst, bv]))] sz) t) (va_A [(m0, .inr (10, [.int th, .ref qu, .ref qs, .ref qc, .ref qp, .int dy, .int stt, .int bst, bv]))] sz)) 0 0 (va_A [(m0, .inr (10, [.int th, .ref qu, .ref qs, .ref qc, .ref qp, .int dy, .int stt, .int bst, bv]))] sz) := by
  refine Met.ofW (cc := cX8_thrown) (maxL := 1) (ret := (some .int)) (by decide +kernel) rfl ?_
  intro p e s m args below meth c s₁ B hml hv
  obtain ⟨rfl, hsz, hP, hK, hD0, hE, hX0⟩ := hv
  have hx := B.exec
  have hb := B.bytes
  have hr := B.returns
  have hts := z_E.ts (args := [.ref m0].toArray) hE
  have hown : s.vm.findClass RX8 = some m.cls := findClass_of_methodNamed B.named
  have hlocks := B.notSynchronized
  subst hsz
  have hD := hD0.self (sz := s.heap.size)
  generalize hAe : va_A [(m0, .inr (10, [.int th, .ref qu, .ref qs, .ref qc, .ref qp, .int dy, .int stt, .int bst, bv]))] s.heap.size = A at hD hX0 ⊢
  have hX : z_X D A s s.heap := hX0
  have hA : ∀ q : Nat, s.heap.size ≤ q → A q := fun q h => by rw [← hAe]; exact Or.inr h
  have hS : va_S A s.heap s.heap [] := va_S.rf
  have hP : va_P D vwCl [(m0, .inr (10, [.int th, .ref qu, .ref qs, .ref qc, .ref qp, .int dy, .int stt, .int bst, bv]))] s.heap := hP
  have hl := lv_entry ([.ref m0]) (n := 1) (Nat.le_of_ble_eq_true rfl)
  rw [lg_entry_eq]
  generalize (lg_sl ([.ref m0]) ++ List.replicate (1 - (lg_sl ([.ref m0])).length) Slot.unset).toArray = ls at hl ⊢
  have hl : lv_has ls 1 [(0, .ref m0)] := hl
  skip
  refine lv_aload_n hx hb dX8_thrown_0 rfl (lv_at hl 0 rfl) ?_
  refine va_get (D := D) (ci := 10) (v := .int th) (C := RX8) (T := TX8) (N := 9) hx hb hts zin_X8 hown hK hP 0 rfl rfl 0 (by decide) (hts _ zw_1080) (fun _ h9 => h9) rfl dX8_thrown_1 ?_
  exact W.iret (v := th) hx hb hr (fun t ht hW => ⟨⟨th, (), rfl, rfl, z_end hP hK hD [0] rfl rfl [] rfl ht hW.alike⟩, hS.F ht⟩) hS.2.2 dX8_thrown_4
theorem dL_law_232 : decode cL_law 232 = .ok (.aload_n 1, 1) := by decide +kernel
theorem dL_law_233 : decode cL_law 233 = .ok (.aload_n 0, 1) := by decide +kernel
theorem dL_law_234 : decode cL_law 234 = .ok (.iload 5, 2) := by decide +kernel
theorem dL_law_236 : decode cL_law 236 = .ok (.iconst 1, 1) := by decide +kernel
theorem dL_law_237 : decode cL_law 237 = .ok (.iadd, 1) := by decide +kernel
theorem dL_law_238 : decode cL_law 238 = .ok (.iaload, 1) := by decide +kernel
theorem dL_law_239 : decode cL_law 239 = .ok (.aload_n 3, 1) := by decide +kernel
theorem dL_law_240 : decode cL_law 240 = .ok (.invokestatic 150, 3) := by decide +kernel
theorem zw_402 : Cond.methodLink RL 150 yL_addUnit ∈ z_Ts := z_m 402 (by decide +kernel) (by decide +kernel)
theorem zw_403 : Cond.static yL_addUnit ∈ z_Ts := z_m 403 (by decide +kernel) (by decide +kernel)
theorem zw_90 : Cond.initialized RL ∈ z_Ts := z_m 90 (by decide +kernel) (by decide +kernel)
theorem zw_404 : Cond.codeWith yL_addUnit cL_addUnit 4 (some .int) [(0, 9, 12, 13), (0, 9, 15, 15), (0, 9, 18, 17)] ∈ z_Ts := z_m 404 (by decide +kernel) (by decide +kernel)
theorem dL_law_243 : decode cL_law 243 = .ok (.istore 6, 2) := by decide +kernel
theorem dL_law_245 : decode cL_law 245 = .ok (.aload_n 2, 1) := by decide +kernel
theorem dL_law_246 : decode cL_law 246 = .ok (.aload_n 0, 1) := by decide +kernel
theorem dL_law_247 : decode cL_law 247 = .ok (.iload 5, 2) := by decide +kernel
theorem dL_law_249 : decode cL_law 249 = .ok (.iconst 1, 1) := by decide +kernel
theorem dL_law_250 : decode cL_law 250 = .ok (.iadd, 1) := by decide +kernel
theorem dL_law_251 : decode cL_law 251 = .ok (.iaload, 1) := by decide +kernel
theorem dL_law_252 : decode cL_law 252 = .ok (.invokevirtual 155, 3) := by decide +kernel
theorem zw_1112 : Cond.methodLink RL 155 yX8_addUnit ∈ z_Ts := z_m 1112 (by decide +kernel) (by decide +kernel)
theorem zw_1113 : Cond.instanceMethod yX8_addUnit ∈ z_Ts := z_m 1113 (by decide +kernel) (by decide +kernel)
theorem zw_1114 : Cond.selects RX8 yX8_addUnit yX8_addUnit ∈ z_Ts := z_m 1114 (by decide +kernel) (by decide +kernel)
theorem zw_1115 : Cond.code yX8_addUnit cX8_addUnit 2 (some .int) ∈ z_Ts := z_m 1115 (by decide +kernel) (by decide +kernel)
theorem dL_law_255 : decode cL_law 255 = .ok (.istore 7, 2) := by decide +kernel
theorem dL_law_257 : decode cL_law 257 = .ok (.aload_n 2, 1) := by decide +kernel
theorem dL_law_258 : decode cL_law 258 = .ok (.invokevirtual 156, 3) := by decide +kernel
theorem zw_1108 : Cond.methodLink RL 156 yX8_thrown ∈ z_Ts := z_m 1108 (by decide +kernel) (by decide +kernel)
theorem zw_1109 : Cond.instanceMethod yX8_thrown ∈ z_Ts := z_m 1109 (by decide +kernel) (by decide +kernel)
theorem zw_1110 : Cond.selects RX8 yX8_thrown yX8_thrown ∈ z_Ts := z_m 1110 (by decide +kernel) (by decide +kernel)
theorem zw_1111 : Cond.code yX8_thrown cX8_thrown 1 (some .int) ∈ z_Ts := z_m 1111 (by decide +kernel) (by decide +kernel)
theorem dL_law_261 : decode cL_law 261 = .ok (.iload 6, 2) := by decide +kernel
theorem dL_law_263 : decode cL_law 263 = .ok (.if_icmp .eq 5, 3) := by decide +kernel
theorem dL_law_268 : decode cL_law 268 = .ok (.iload 6, 2) := by decide +kernel
theorem dL_law_270 : decode cL_law 270 = .ok (.ifCond .ne 15, 3) := by decide +kernel
theorem dL_law_273 : decode cL_law 273 = .ok (.aload_n 3, 1) := by decide +kernel
theorem dL_law_274 : decode cL_law 274 = .ok (.iconst 0, 1) := by decide +kernel
theorem dL_law_275 : decode cL_law 275 = .ok (.laload, 1) := by decide +kernel
theorem dL_law_276 : decode cL_law 276 = .ok (.iload 7, 2) := by decide +kernel
theorem dL_law_278 : decode cL_law 278 = .ok (.i2l, 1) := by decide +kernel
theorem dL_law_279 : decode cL_law 279 = .ok (.lcmp, 1) := by decide +kernel
theorem dL_law_280 : decode cL_law 280 = .ok (.ifCond .eq 5, 3) := by decide +kernel
theorem dL_law_285 : decode cL_law 285 = .ok (.goto 2378, 3) := by decide +kernel
set_option maxHeartbeats 4000000 in
set_option maxRecDepth 100000 in
theorem law_0 {p : Program} {l : Launch} {e : Env} {s : State} {m : MethodId} {below : List Frame} {meth : Method} {c : Code} {b L : Nat} {xs : Nat → Int32} {D : va_G} {A : Nat → Prop} (C0 : lw_At p s m meth c b L xs) (hL7 : L = 7) (hst : l.stackTraces = false) (hE : z_E s) (hX : z_X D A s s.heap) (hA : ∀ q, s.heap.size ≤ q → A q) (hbA : ¬ A b) (hAF : ∀ q, A q → s.heap.size ≤ q) {h0 hu hs hc hp hg u0 ul w0 go gs ge gb m0 qu qs qc qp qo qd : Nat} {cU cC cP cS cB cM cJ cD : ClassId} {fu fc : Nat → Option Nat} {fp fm : Nat → Int32} (hfu : fu 0 = some u0) (hfc : fc 0 = some w0) (hfp : ∀ j : Nat, j < 7 → fp j = 100) (hfm : ∀ j : Nat, j < 7 → fm j = 100) {H : Heap} {locs : List Loc} (hK : va_K D vwCl [(cU, .object RX3), (cC, .object RX0), (cP, .int), (cS, .int), (cB, .int), (cM, .int), (cJ, .long), (cD, .double)] s) (hP : va_P D vwCl [(h0, .inr (6, [.ref hu, .ref hs, .ref hc, .ref hp, .ref hg, .int 0, .int 0, .int 0, .int 0, .int 0])), (hu, .inl (cU, 10, .inr (.inr (.inr (.inr fu))))), (u0, .inr (5, [.ref ul, .int 0, .int 0, .int 45, .int 0, .int 0, .int (-1)])), (hc, .inl (cC, 4, .inr (.inr (.inr (.inr fc))))), (w0, .inr (2, [.int 100, .int (-1)])), (hp, .inl (cP, 7, .inl fp)), (hg, .inr (3, [.ref go, .ref gs, .ref ge, .ref gb, .int 0, .int 0, .int 0, .int 0])), (gs, .inl (cS, 10, .inl (fun _ => 0))), (gb, .inl (cB, 10, .inl (fun _ => 0))), (m0, .inr (10, [.int 0, .ref qu, .ref qs, .ref qc, .ref qp, .int 0, .int (-1), .int 0, .null])), (qu, .inr (1, [.int 0, .ref (D.2 50 0), .int 0])), (qs, .inr (1, [.int 0, .ref (D.2 50 0), .int 0])), (qc, .inr (1, [.int 0, .ref (D.2 50 0), .int 0])), (qp, .inl (cM, 7, .inl fm)), (qo, .inl (cJ, 1, .inr (.inl (fun _ => 0)))), (qd, .inl (cD, 1, .inr (.inr (.inr (.inl (fun _ => 0))))))] H) (hD : va_D A [(h0, .inr (6, [.ref hu, .ref hs, .ref hc, .ref hp, .ref hg, .int 0, .int 0, .int 0, .int 0, .int 0])), (hu, .inl (cU, 10, .inr (.inr (.inr (.inr fu))))), (u0, .inr (5, [.ref ul, .int 0, .int 0, .int 45, .int 0, .int 0, .int (-1)])), (hc, .inl (cC, 4, .inr (.inr (.inr (.inr fc))))), (w0, .inr (2, [.int 100, .int (-1)])), (hp, .inl (cP, 7, .inl fp)), (hg, .inr (3, [.ref go, .ref gs, .ref ge, .ref gb, .int 0, .int 0, .int 0, .int 0])), (gs, .inl (cS, 10, .inl (fun _ => 0))), (gb, .inl (cB, 10, .inl (fun _ => 0))), (m0, .inr (10, [.int 0, .ref qu, .ref qs, .ref qc, .ref qp, .int 0, .int (-1), .int 0, .null])), (qu, .inr (1, [.int 0, .ref (D.2 50 0), .int 0])), (qs, .inr (1, [.int 0, .ref (D.2 50 0), .int 0])), (qc, .inr (1, [.int 0, .ref (D.2 50 0), .int 0])), (qp, .inl (cM, 7, .inl fm)), (qo, .inl (cJ, 1, .inr (.inl (fun _ => 0)))), (qd, .inl (cD, 1, .inr (.inr (.inr (.inl (fun _ => 0))))))]) (hS : va_S A s.heap H locs) {ls : Array Slot} (hl : lv_has ls 9 [(5, .int 0), (4, .ref qd), (3, .ref qo), (2, .ref m0), (1, .ref h0), (0, .ref b)]) : W p l e room_1 s m #[Value.ref b] below meth c H locs 62 437 (lw_Z below #[Value.ref b] s) (F0 m 232 ls []) := by
  obtain ⟨hx, hb, hr, hml, hown, hts0, hXs, hbl, hlocks, hgv⟩ := id C0
  have hts := z_E.ts (args := #[Value.ref b]) hE
  have hown : s.vm.findClass RL = some m.cls := hown
  refine lv_aload_n hx hb dL_law_232 rfl (lv_at hl 4 rfl) ?_
  refine lv_aload_n hx hb dL_law_233 rfl (lv_at hl 5 rfl) ?_
  refine lv_iload hx hb dL_law_234 (lv_at hl 0 rfl) ?_
  refine lv_iconst (v := 1) hx hb dL_law_236 (by decide) ?_
  refine lv_iadd hx hb dL_law_237 ?_
  refine lv_topi (fun x_1 ex_1 => ?_)
  obtain rfl : x_1 = 1 := ex_1.trans (by first | rfl | decide | simp)
  refine va_sld (i := 1) hx hb hXs hbl hbA hS (by rw [hL7]; unfold vp_in; decide) dL_law_238 ?_
  refine lv_topi (fun a_2 ea_2 => ?_)
  refine lv_aload_n hx hb dL_law_239 rfl (lv_at hl 2 rfl) ?_
  obtain ⟨hb_4, hc_4⟩ := z_call (wc := [(h0, .inr (6, [.ref hu, .ref hs, .ref hc, .ref hp, .ref hg, .int 0, .int 0, .int 0, .int 0, .int 0])), (hu, .inl (cU, 10, .inr (.inr (.inr (.inr fu))))), (u0, .inr (5, [.ref ul, .int 0, .int 0, .int 45, .int 0, .int 0, .int (-1)])), (qo, .inl (cJ, 1, .inr (.inl (fun _ => 0))))]) (tc := [(cU, .object RX3), (cJ, .long)]) ([.ref h0, .int a_2, .ref qo]) hP hK hD hS hA hE hX [0, 1, 2, 14] rfl rfl [0, 6] rfl
  have hF_4 := va_free (wc := [(h0, .inr (6, [.ref hu, .ref hs, .ref hc, .ref hp, .ref hg, .int 0, .int 0, .int 0, .int 0, .int 0])), (hu, .inl (cU, 10, .inr (.inr (.inr (.inr fu))))), (u0, .inr (5, [.ref ul, .int 0, .int 0, .int 45, .int 0, .int 0, .int (-1)])), (qo, .inl (cJ, 1, .inr (.inl (fun _ => 0))))]) hD hS hA [0, 1, 2, 14] rfl
  refine vx_calli (vx_runSX (As := [.ref h0, .int a_2, .ref qo]) (rest := []) ⟨hx, hb, hml, hown, hts⟩ (w_L_addUnit l hst D h0 hu hs hc hp hg 0 0 cU fu u0 ul a_2 qo (fun _ => 0) cJ _ hfu) (z_cSW 3 hE zw_402 zw_403 zw_90 zw_404 rfl rfl rfl (by decide +kernel) ⟨(Nat.le_of_ble_eq_true rfl), (Nat.le_of_ble_eq_true rfl)⟩) ⟨hb_4, hc_4⟩ rfl rfl hl.1 rfl (lv_room (Nat.le_of_ble_eq_true rfl)) dL_law_240 ⟨(Nat.le_of_ble_eq_true rfl), (Nat.le_of_ble_eq_true rfl)⟩) hS (fun q _ h => hF_4 q h) hF_4 (fun q _ h => hF_4 q h) (fun E_4 ce_4 q9_4 u_4 t_4 H1 locs ht_4 hvm_4 hw_4 hB_4 hz_4 hk_4 hS1 hce_4 hcv_4 hcl_4 => ?_) (fun r_4 u_4 t_4 H1 locs ht_4 hvm_4 hw_4 hB_4 hz_4 hk_4 hS1 => ?_)
  · exact hw_4.elim
  · obtain ⟨fz_3, hz_3, hB_4⟩ := hB_4
    obtain ⟨hP, hK, hD⟩ := z_back (wc := [(h0, .inr (6, [.ref hu, .ref hs, .ref hc, .ref hp, .ref hg, .int 0, .int 0, .int 0, .int 0, .int 0])), (hu, .inl (cU, 10, .inr (.inr (.inr (.inr fu))))), (u0, .inr (5, [.ref ul, .int 0, .int 0, .int 45, .int 0, .int 0, .int (-1)])), (qo, .inl (cJ, 1, .inr (.inl (fun _ => 0))))]) (wr := [(hc, .inl (cC, 4, .inr (.inr (.inr (.inr fc))))), (w0, .inr (2, [.int 100, .int (-1)])), (hp, .inl (cP, 7, .inl fp)), (hg, .inr (3, [.ref go, .ref gs, .ref ge, .ref gb, .int 0, .int 0, .int 0, .int 0])), (gs, .inl (cS, 10, .inl (fun _ => 0))), (gb, .inl (cB, 10, .inl (fun _ => 0))), (m0, .inr (10, [.int 0, .ref qu, .ref qs, .ref qc, .ref qp, .int 0, .int (-1), .int 0, .null])), (qu, .inr (1, [.int 0, .ref (D.2 50 0), .int 0])), (qs, .inr (1, [.int 0, .ref (D.2 50 0), .int 0])), (qc, .inr (1, [.int 0, .ref (D.2 50 0), .int 0])), (qp, .inl (cM, 7, .inl fm)), (qd, .inl (cD, 1, .inr (.inr (.inr (.inl (fun _ => 0))))))]) (w1 := [(qo, .inl (cJ, 1, .inr (.inl fz_3)))]) (tr := [(cC, .object RX0), (cP, .int), (cS, .int), (cB, .int), (cM, .int), (cD, .double)]) hP hK hD [0, 1, 2, 14] [3, 4, 5, 6, 7, 8, 9, 10, 11, 12, 13, 15] rfl rfl rfl (by decide) ht_4 hvm_4 hk_4 hF_4 [1, 2, 3, 4, 5, 7] rfl hB_4
    have hS := hS1
    have hP : va_P D vwCl [(hc, .inl (cC, 4, .inr (.inr (.inr (.inr fc))))), (w0, .inr (2, [.int 100, .int (-1)])), (hp, .inl (cP, 7, .inl fp)), (hg, .inr (3, [.ref go, .ref gs, .ref ge, .ref gb, .int 0, .int 0, .int 0, .int 0])), (gs, .inl (cS, 10, .inl (fun _ => 0))), (gb, .inl (cB, 10, .inl (fun _ => 0))), (m0, .inr (10, [.int 0, .ref qu, .ref qs, .ref qc, .ref qp, .int 0, .int (-1), .int 0, .null])), (qu, .inr (1, [.int 0, .ref (D.2 50 0), .int 0])), (qs, .inr (1, [.int 0, .ref (D.2 50 0), .int 0])), (qc, .inr (1, [.int 0, .ref (D.2 50 0), .int 0])), (qp, .inl (cM, 7, .inl fm)), (qd, .inl (cD, 1, .inr (.inr (.inr (.inl (fun _ => 0)))))), (qo, .inl (cJ, 1, .inr (.inl fz_3)))] H1 := hP
    have hD : va_D A [(hc, .inl (cC, 4, .inr (.inr (.inr (.inr fc))))), (w0, .inr (2, [.int 100, .int (-1)])), (hp, .inl (cP, 7, .inl fp)), (hg, .inr (3, [.ref go, .ref gs, .ref ge, .ref gb, .int 0, .int 0, .int 0, .int 0])), (gs, .inl (cS, 10, .inl (fun _ => 0))), (gb, .inl (cB, 10, .inl (fun _ => 0))), (m0, .inr (10, [.int 0, .ref qu, .ref qs, .ref qc, .ref qp, .int 0, .int (-1), .int 0, .null])), (qu, .inr (1, [.int 0, .ref (D.2 50 0), .int 0])), (qs, .inr (1, [.int 0, .ref (D.2 50 0), .int 0])), (qc, .inr (1, [.int 0, .ref (D.2 50 0), .int 0])), (qp, .inl (cM, 7, .inl fm)), (qd, .inl (cD, 1, .inr (.inr (.inr (.inl (fun _ => 0)))))), (qo, .inl (cJ, 1, .inr (.inl fz_3)))] := hD
    have hK : va_K D vwCl [(cC, .object RX0), (cP, .int), (cS, .int), (cB, .int), (cM, .int), (cD, .double), (cJ, .long)] s := hK
    clear hS1
    refine lv_istore (lv' := [(6, .int r_4), (5, .int 0), (4, .ref qd), (3, .ref qo), (2, .ref m0), (1, .ref h0), (0, .ref b)]) hx hb dL_law_243 hl (by decide) rfl (fun ls hl => ?_)
    refine lv_aload_n hx hb dL_law_245 rfl (lv_at hl 4 rfl) ?_
    refine lv_aload_n hx hb dL_law_246 rfl (lv_at hl 6 rfl) ?_
    refine lv_iload hx hb dL_law_247 (lv_at hl 1 rfl) ?_
    refine lv_iconst (v := 1) hx hb dL_law_249 (by decide) ?_
    refine lv_iadd hx hb dL_law_250 ?_
    refine lv_topi (fun x_5 ex_5 => ?_)
    obtain rfl : x_5 = 1 := ex_5.trans (by first | rfl | decide | simp)
    refine va_sld (i := 1) hx hb hXs hbl hbA hS (by rw [hL7]; unfold vp_in; decide) dL_law_251 ?_
    refine lv_topi (fun a_6 ea_6 => ?_)
    obtain rfl : a_2 = a_6 := ea_2.trans ea_6.symm
    obtain ⟨hb_8, hc_8⟩ := z_call (wc := [(m0, .inr (10, [.int 0, .ref qu, .ref qs, .ref qc, .ref qp, .int 0, .int (-1), .int 0, .null])), (qu, .inr (1, [.int 0, .ref (D.2 50 0), .int 0])), (qs, .inr (1, [.int 0, .ref (D.2 50 0), .int 0]))]) (tc := []) ([.ref m0, .int a_2]) hP hK hD hS hA hE hX [6, 7, 8] rfl rfl [] rfl
    have hF_8 := va_free (wc := [(m0, .inr (10, [.int 0, .ref qu, .ref qs, .ref qc, .ref qp, .int 0, .int (-1), .int 0, .null])), (qu, .inr (1, [.int 0, .ref (D.2 50 0), .int 0])), (qs, .inr (1, [.int 0, .ref (D.2 50 0), .int 0]))]) hD hS hA [6, 7, 8] rfl
    refine va_calli (va_runV (As := [.int a_2]) (rest := []) ⟨hx, hb, hml, hown, hts⟩ (g_X8_addUnit l D m0 qu qs qc qp 0 (D.2 50 0) a_2 _ ) (z_cV 1 hE zw_1112 zw_1113 zw_1114 zw_96 zw_1115 rfl rfl rfl (by decide +kernel) ⟨(Nat.le_of_ble_eq_true rfl), (Nat.le_of_ble_eq_true rfl)⟩) ⟨hb_8, va_recv hK hP (ci := 10) (q0 := 6) rfl rfl, hc_8⟩ rfl rfl hl.1 rfl (lv_room (Nat.le_of_ble_eq_true rfl)) dL_law_252 ⟨(Nat.le_of_ble_eq_true rfl), (Nat.le_of_ble_eq_true rfl)⟩) hS (fun q _ h => hF_8 q h) hF_8 (fun r_8 u_8 t_8 H1 locs ht_8 hvm_8 hw_8 hB_8 hz_8 hk_8 hS1 => ?_)
    obtain ⟨t_7, ht_7, hB_8⟩ := hB_8
    obtain ⟨hP, hK, hD⟩ := z_back (wc := [(m0, .inr (10, [.int 0, .ref qu, .ref qs, .ref qc, .ref qp, .int 0, .int (-1), .int 0, .null])), (qu, .inr (1, [.int 0, .ref (D.2 50 0), .int 0])), (qs, .inr (1, [.int 0, .ref (D.2 50 0), .int 0]))]) (wr := [(hc, .inl (cC, 4, .inr (.inr (.inr (.inr fc))))), (w0, .inr (2, [.int 100, .int (-1)])), (hp, .inl (cP, 7, .inl fp)), (hg, .inr (3, [.ref go, .ref gs, .ref ge, .ref gb, .int 0, .int 0, .int 0, .int 0])), (gs, .inl (cS, 10, .inl (fun _ => 0))), (gb, .inl (cB, 10, .inl (fun _ => 0))), (qc, .inr (1, [.int 0, .ref (D.2 50 0), .int 0])), (qp, .inl (cM, 7, .inl fm)), (qd, .inl (cD, 1, .inr (.inr (.inr (.inl (fun _ => 0)))))), (qo, .inl (cJ, 1, .inr (.inl fz_3)))]) (w1 := [(m0, .inr (10, [.int t_7, .ref qu, .ref qs, .ref qc, .ref qp, .int 0, .int (-1), .int 0, .null]))]) (tr := [(cC, .object RX0), (cP, .int), (cS, .int), (cB, .int), (cM, .int), (cD, .double), (cJ, .long)]) hP hK hD [6, 7, 8] [0, 1, 2, 3, 4, 5, 9, 10, 11, 12] rfl rfl rfl (by decide) ht_8 hvm_8 hk_8 hF_8 [0, 1, 2, 3, 4, 5, 6] rfl hB_8
    have hS := hS1
    have hP : va_P D vwCl [(hc, .inl (cC, 4, .inr (.inr (.inr (.inr fc))))), (w0, .inr (2, [.int 100, .int (-1)])), (hp, .inl (cP, 7, .inl fp)), (hg, .inr (3, [.ref go, .ref gs, .ref ge, .ref gb, .int 0, .int 0, .int 0, .int 0])), (gs, .inl (cS, 10, .inl (fun _ => 0))), (gb, .inl (cB, 10, .inl (fun _ => 0))), (qc, .inr (1, [.int 0, .ref (D.2 50 0), .int 0])), (qp, .inl (cM, 7, .inl fm)), (qd, .inl (cD, 1, .inr (.inr (.inr (.inl (fun _ => 0)))))), (qo, .inl (cJ, 1, .inr (.inl fz_3))), (m0, .inr (10, [.int t_7, .ref qu, .ref qs, .ref qc, .ref qp, .int 0, .int (-1), .int 0, .null]))] H1 := hP
    have hD : va_D A [(hc, .inl (cC, 4, .inr (.inr (.inr (.inr fc))))), (w0, .inr (2, [.int 100, .int (-1)])), (hp, .inl (cP, 7, .inl fp)), (hg, .inr (3, [.ref go, .ref gs, .ref ge, .ref gb, .int 0, .int 0, .int 0, .int 0])), (gs, .inl (cS, 10, .inl (fun _ => 0))), (gb, .inl (cB, 10, .inl (fun _ => 0))), (qc, .inr (1, [.int 0, .ref (D.2 50 0), .int 0])), (qp, .inl (cM, 7, .inl fm)), (qd, .inl (cD, 1, .inr (.inr (.inr (.inl (fun _ => 0)))))), (qo, .inl (cJ, 1, .inr (.inl fz_3))), (m0, .inr (10, [.int t_7, .ref qu, .ref qs, .ref qc, .ref qp, .int 0, .int (-1), .int 0, .null]))] := hD
    have hK : va_K D vwCl [(cC, .object RX0), (cP, .int), (cS, .int), (cB, .int), (cM, .int), (cD, .double), (cJ, .long)] s := hK
    clear hS1
    refine lv_istore (lv' := [(7, .int r_8), (6, .int r_4), (5, .int 0), (4, .ref qd), (3, .ref qo), (2, .ref m0), (1, .ref h0), (0, .ref b)]) hx hb dL_law_255 hl (by decide) rfl (fun ls hl => ?_)
    by_cases hG_9 : (¬ a_2 < 4 ∧ a_2 ≤ 12)
    · obtain rfl : r_4 = 0 := hw_4.trans (if_pos hG_9)
      obtain rfl : t_7 = 0 := ht_7.trans (if_pos ((z_g32 (by decide) (by decide)).mp hG_9))
      have hv_t_7 := hz_3 hG_9
      obtain rfl : r_8 = 0 := hw_8
      refine lv_aload_n hx hb dL_law_257 rfl (lv_at hl 5 rfl) ?_
      obtain ⟨hb_10, hc_10⟩ := z_call (wc := [(m0, .inr (10, [.int 0, .ref qu, .ref qs, .ref qc, .ref qp, .int 0, .int (-1), .int 0, .null]))]) (tc := []) ([.ref m0]) hP hK hD hS hA hE hX [10] rfl rfl [] rfl
      have hF_10 := va_free (wc := [(m0, .inr (10, [.int 0, .ref qu, .ref qs, .ref qc, .ref qp, .int 0, .int (-1), .int 0, .null]))]) hD hS hA [10] rfl
      refine va_calli (va_runV (As := []) (rest := []) ⟨hx, hb, hml, hown, hts⟩ (c_X8_thrown l D m0 qu qs qc qp 0 0 (-1) 0 .null _ ) (z_cV 0 hE zw_1108 zw_1109 zw_1110 zw_96 zw_1111 rfl rfl rfl (by decide +kernel) ⟨(Nat.le_of_ble_eq_true rfl), (Nat.le_of_ble_eq_true rfl)⟩) ⟨hb_10, va_recv hK hP (ci := 10) (q0 := 10) rfl rfl, hc_10⟩ rfl rfl hl.1 rfl (lv_room (Nat.le_of_ble_eq_true rfl)) dL_law_258 ⟨(Nat.le_of_ble_eq_true rfl), (Nat.le_of_ble_eq_true rfl)⟩) hS (fun q _ h => hF_10 q h) hF_10 (fun r_10 u_10 t_10 H1 locs ht_10 hvm_10 hw_10 hB_10 hz_10 hk_10 hS1 => ?_)
      obtain ⟨hP, hK, hD⟩ := z_back (wc := [(m0, .inr (10, [.int 0, .ref qu, .ref qs, .ref qc, .ref qp, .int 0, .int (-1), .int 0, .null]))]) (wr := [(hc, .inl (cC, 4, .inr (.inr (.inr (.inr fc))))), (w0, .inr (2, [.int 100, .int (-1)])), (hp, .inl (cP, 7, .inl fp)), (hg, .inr (3, [.ref go, .ref gs, .ref ge, .ref gb, .int 0, .int 0, .int 0, .int 0])), (gs, .inl (cS, 10, .inl (fun _ => 0))), (gb, .inl (cB, 10, .inl (fun _ => 0))), (qc, .inr (1, [.int 0, .ref (D.2 50 0), .int 0])), (qp, .inl (cM, 7, .inl fm)), (qd, .inl (cD, 1, .inr (.inr (.inr (.inl (fun _ => 0)))))), (qo, .inl (cJ, 1, .inr (.inl fz_3)))]) (w1 := [(m0, .inr (10, [.int 0, .ref qu, .ref qs, .ref qc, .ref qp, .int 0, .int (-1), .int 0, .null]))]) (tr := [(cC, .object RX0), (cP, .int), (cS, .int), (cB, .int), (cM, .int), (cD, .double), (cJ, .long)]) hP hK hD [10] [0, 1, 2, 3, 4, 5, 6, 7, 8, 9] rfl rfl rfl (by decide) ht_10 hvm_10 hk_10 hF_10 [0, 1, 2, 3, 4, 5, 6] rfl hB_10
      have hS := hS1
      have hP : va_P D vwCl [(hc, .inl (cC, 4, .inr (.inr (.inr (.inr fc))))), (w0, .inr (2, [.int 100, .int (-1)])), (hp, .inl (cP, 7, .inl fp)), (hg, .inr (3, [.ref go, .ref gs, .ref ge, .ref gb, .int 0, .int 0, .int 0, .int 0])), (gs, .inl (cS, 10, .inl (fun _ => 0))), (gb, .inl (cB, 10, .inl (fun _ => 0))), (qc, .inr (1, [.int 0, .ref (D.2 50 0), .int 0])), (qp, .inl (cM, 7, .inl fm)), (qd, .inl (cD, 1, .inr (.inr (.inr (.inl (fun _ => 0)))))), (qo, .inl (cJ, 1, .inr (.inl fz_3))), (m0, .inr (10, [.int 0, .ref qu, .ref qs, .ref qc, .ref qp, .int 0, .int (-1), .int 0, .null]))] H1 := hP
      have hD : va_D A [(hc, .inl (cC, 4, .inr (.inr (.inr (.inr fc))))), (w0, .inr (2, [.int 100, .int (-1)])), (hp, .inl (cP, 7, .inl fp)), (hg, .inr (3, [.ref go, .ref gs, .ref ge, .ref gb, .int 0, .int 0, .int 0, .int 0])), (gs, .inl (cS, 10, .inl (fun _ => 0))), (gb, .inl (cB, 10, .inl (fun _ => 0))), (qc, .inr (1, [.int 0, .ref (D.2 50 0), .int 0])), (qp, .inl (cM, 7, .inl fm)), (qd, .inl (cD, 1, .inr (.inr (.inr (.inl (fun _ => 0)))))), (qo, .inl (cJ, 1, .inr (.inl fz_3))), (m0, .inr (10, [.int 0, .ref qu, .ref qs, .ref qc, .ref qp, .int 0, .int (-1), .int 0, .null]))] := hD
      have hK : va_K D vwCl [(cC, .object RX0), (cP, .int), (cS, .int), (cB, .int), (cM, .int), (cD, .double), (cJ, .long)] s := hK
      clear hS1
      obtain rfl : r_10 = 0 := hw_10
      refine lv_iload hx hb dL_law_261 (lv_at hl 1 rfl) ?_
      refine lv_icmp_eq (tgt := 268) hx hb dL_law_263 (by decide) (fun c_11 => ?_) (fun c_11 => absurd (by decide) c_11)
      refine lv_iload hx hb dL_law_268 (lv_at hl 1 rfl) ?_
      refine lv_if_ne (tgt := 285) hx hb dL_law_270 (by decide) (fun c_12 => absurd (by decide) c_12) (fun c_12 => ?_)
      refine lv_aload_n hx hb dL_law_273 rfl (lv_at hl 4 rfl) ?_
      refine lv_iconst (v := 0) hx hb dL_law_274 (by decide) ?_
      refine va_lald hx hb hK hP 9 6 rfl rfl (i := 0) (by unfold vp_in; decide) dL_law_275 ?_
      refine lv_topl (fun y_13 ey_13 => ?_)
      obtain rfl : y_13 = 0 := ey_13.trans hv_t_7
      refine lv_iload hx hb dL_law_276 (lv_at hl 0 rfl) ?_
      refine lv_i2l (v := 0) hx hb dL_law_278 (by decide) ?_
      refine W.lcmp hx hb dL_law_279 ?_
      refine lv_topi (fun x_14 ex_14 => ?_)
      obtain rfl : x_14 = 0 := ex_14.trans ((lg_cmp_eq _ _).mpr rfl)
      refine lv_if_eq (tgt := 285) hx hb dL_law_280 (by decide) (fun c_15 => ?_) (fun c_15 => absurd (by decide) c_15)
      refine lv_goto (tgt := 2663) hx hb dL_law_285 (by decide) ?_
      exact law_end C0 hL7 hAF hbA hS (lv_sub (l' := [(5, .int 0), (0, .ref b)]) hl [2, 7] rfl) (Nat.le_of_ble_eq_true rfl) (Nat.le_of_ble_eq_true rfl)
    · obtain rfl : r_4 = 1 := hw_4.trans (if_neg hG_9)
      obtain rfl : t_7 = 1 := ht_7.trans (if_neg (fun q => hG_9 ((z_g32 (by decide) (by decide)).mpr q)))
      refine lv_aload_n hx hb dL_law_257 rfl (lv_at hl 5 rfl) ?_
      obtain ⟨hb_10, hc_10⟩ := z_call (wc := [(m0, .inr (10, [.int 1, .ref qu, .ref qs, .ref qc, .ref qp, .int 0, .int (-1), .int 0, .null]))]) (tc := []) ([.ref m0]) hP hK hD hS hA hE hX [10] rfl rfl [] rfl
      have hF_10 := va_free (wc := [(m0, .inr (10, [.int 1, .ref qu, .ref qs, .ref qc, .ref qp, .int 0, .int (-1), .int 0, .null]))]) hD hS hA [10] rfl
      refine va_calli (va_runV (As := []) (rest := []) ⟨hx, hb, hml, hown, hts⟩ (c_X8_thrown l D m0 qu qs qc qp 1 0 (-1) 0 .null _ ) (z_cV 0 hE zw_1108 zw_1109 zw_1110 zw_96 zw_1111 rfl rfl rfl (by decide +kernel) ⟨(Nat.le_of_ble_eq_true rfl), (Nat.le_of_ble_eq_true rfl)⟩) ⟨hb_10, va_recv hK hP (ci := 10) (q0 := 10) rfl rfl, hc_10⟩ rfl rfl hl.1 rfl (lv_room (Nat.le_of_ble_eq_true rfl)) dL_law_258 ⟨(Nat.le_of_ble_eq_true rfl), (Nat.le_of_ble_eq_true rfl)⟩) hS (fun q _ h => hF_10 q h) hF_10 (fun r_10 u_10 t_10 H1 locs ht_10 hvm_10 hw_10 hB_10 hz_10 hk_10 hS1 => ?_)
      obtain ⟨hP, hK, hD⟩ := z_back (wc := [(m0, .inr (10, [.int 1, .ref qu, .ref qs, .ref qc, .ref qp, .int 0, .int (-1), .int 0, .null]))]) (wr := [(hc, .inl (cC, 4, .inr (.inr (.inr (.inr fc))))), (w0, .inr (2, [.int 100, .int (-1)])), (hp, .inl (cP, 7, .inl fp)), (hg, .inr (3, [.ref go, .ref gs, .ref ge, .ref gb, .int 0, .int 0, .int 0, .int 0])), (gs, .inl (cS, 10, .inl (fun _ => 0))), (gb, .inl (cB, 10, .inl (fun _ => 0))), (qc, .inr (1, [.int 0, .ref (D.2 50 0), .int 0])), (qp, .inl (cM, 7, .inl fm)), (qd, .inl (cD, 1, .inr (.inr (.inr (.inl (fun _ => 0)))))), (qo, .inl (cJ, 1, .inr (.inl fz_3)))]) (w1 := [(m0, .inr (10, [.int 1, .ref qu, .ref qs, .ref qc, .ref qp, .int 0, .int (-1), .int 0, .null]))]) (tr := [(cC, .object RX0), (cP, .int), (cS, .int), (cB, .int), (cM, .int), (cD, .double), (cJ, .long)]) hP hK hD [10] [0, 1, 2, 3, 4, 5, 6, 7, 8, 9] rfl rfl rfl (by decide) ht_10 hvm_10 hk_10 hF_10 [0, 1, 2, 3, 4, 5, 6] rfl hB_10
      have hS := hS1
      have hP : va_P D vwCl [(hc, .inl (cC, 4, .inr (.inr (.inr (.inr fc))))), (w0, .inr (2, [.int 100, .int (-1)])), (hp, .inl (cP, 7, .inl fp)), (hg, .inr (3, [.ref go, .ref gs, .ref ge, .ref gb, .int 0, .int 0, .int 0, .int 0])), (gs, .inl (cS, 10, .inl (fun _ => 0))), (gb, .inl (cB, 10, .inl (fun _ => 0))), (qc, .inr (1, [.int 0, .ref (D.2 50 0), .int 0])), (qp, .inl (cM, 7, .inl fm)), (qd, .inl (cD, 1, .inr (.inr (.inr (.inl (fun _ => 0)))))), (qo, .inl (cJ, 1, .inr (.inl fz_3))), (m0, .inr (10, [.int 1, .ref qu, .ref qs, .ref qc, .ref qp, .int 0, .int (-1), .int 0, .null]))] H1 := hP
      have hD : va_D A [(hc, .inl (cC, 4, .inr (.inr (.inr (.inr fc))))), (w0, .inr (2, [.int 100, .int (-1)])), (hp, .inl (cP, 7, .inl fp)), (hg, .inr (3, [.ref go, .ref gs, .ref ge, .ref gb, .int 0, .int 0, .int 0, .int 0])), (gs, .inl (cS, 10, .inl (fun _ => 0))), (gb, .inl (cB, 10, .inl (fun _ => 0))), (qc, .inr (1, [.int 0, .ref (D.2 50 0), .int 0])), (qp, .inl (cM, 7, .inl fm)), (qd, .inl (cD, 1, .inr (.inr (.inr (.inl (fun _ => 0)))))), (qo, .inl (cJ, 1, .inr (.inl fz_3))), (m0, .inr (10, [.int 1, .ref qu, .ref qs, .ref qc, .ref qp, .int 0, .int (-1), .int 0, .null]))] := hD
      have hK : va_K D vwCl [(cC, .object RX0), (cP, .int), (cS, .int), (cB, .int), (cM, .int), (cD, .double), (cJ, .long)] s := hK
      clear hS1
      obtain rfl : r_10 = 1 := hw_10
      refine lv_iload hx hb dL_law_261 (lv_at hl 1 rfl) ?_
      refine lv_icmp_eq (tgt := 268) hx hb dL_law_263 (by decide) (fun c_11 => ?_) (fun c_11 => absurd (by decide) c_11)
      refine lv_iload hx hb dL_law_268 (lv_at hl 1 rfl) ?_
      refine lv_if_ne (tgt := 285) hx hb dL_law_270 (by decide) (fun c_12 => ?_) (fun c_12 => absurd c_12 (by decide))
      refine lv_goto (tgt := 2663) hx hb dL_law_285 (by decide) ?_
      exact law_end C0 hL7 hAF hbA hS (lv_sub (l' := [(5, .int 0), (0, .ref b)]) hl [2, 7] rfl) (Nat.le_of_ble_eq_true rfl) (Nat.le_of_ble_eq_true rfl)
theorem dL_law_288 : decode cL_law 288 = .ok (.aload_n 1, 1) := by decide +kernel
theorem dL_law_289 : decode cL_law 289 = .ok (.aload_n 0, 1) := by decide +kernel
theorem dL_law_290 : decode cL_law 290 = .ok (.iload 5, 2) := by decide +kernel
theorem dL_law_292 : decode cL_law 292 = .ok (.iconst 1, 1) := by decide +kernel
theorem dL_law_293 : decode cL_law 293 = .ok (.iadd, 1) := by decide +kernel
theorem dL_law_294 : decode cL_law 294 = .ok (.iaload, 1) := by decide +kernel
theorem dL_law_295 : decode cL_law 295 = .ok (.aload_n 0, 1) := by decide +kernel
theorem dL_law_296 : decode cL_law 296 = .ok (.iload 5, 2) := by decide +kernel
theorem dL_law_298 : decode cL_law 298 = .ok (.iconst 2, 1) := by decide +kernel
theorem dL_law_299 : decode cL_law 299 = .ok (.iadd, 1) := by decide +kernel
theorem dL_law_300 : decode cL_law 300 = .ok (.iaload, 1) := by decide +kernel
theorem dL_law_301 : decode cL_law 301 = .ok (.aload_n 3, 1) := by decide +kernel
theorem dL_law_302 : decode cL_law 302 = .ok (.invokestatic 159, 3) := by decide +kernel
theorem zw_517 : Cond.methodLink RL 159 yL_addWall ∈ z_Ts := z_m 517 (by decide +kernel) (by decide +kernel)
theorem zw_518 : Cond.static yL_addWall ∈ z_Ts := z_m 518 (by decide +kernel) (by decide +kernel)
theorem zw_519 : Cond.codeWith yL_addWall cL_addWall 5 (some .int) [(0, 10, 13, 23), (0, 10, 17, 13), (0, 10, 21, 15)] ∈ z_Ts := z_m 519 (by decide +kernel) (by decide +kernel)
theorem dL_law_305 : decode cL_law 305 = .ok (.istore 6, 2) := by decide +kernel
theorem dL_law_307 : decode cL_law 307 = .ok (.aload_n 2, 1) := by decide +kernel
theorem dL_law_308 : decode cL_law 308 = .ok (.aload_n 0, 1) := by decide +kernel
theorem dL_law_309 : decode cL_law 309 = .ok (.iload 5, 2) := by decide +kernel
theorem dL_law_311 : decode cL_law 311 = .ok (.iconst 1, 1) := by decide +kernel
theorem dL_law_312 : decode cL_law 312 = .ok (.iadd, 1) := by decide +kernel
theorem dL_law_313 : decode cL_law 313 = .ok (.iaload, 1) := by decide +kernel
theorem dL_law_314 : decode cL_law 314 = .ok (.aload_n 0, 1) := by decide +kernel
theorem dL_law_315 : decode cL_law 315 = .ok (.iload 5, 2) := by decide +kernel
theorem dL_law_317 : decode cL_law 317 = .ok (.iconst 2, 1) := by decide +kernel
theorem dL_law_318 : decode cL_law 318 = .ok (.iadd, 1) := by decide +kernel
theorem dL_law_319 : decode cL_law 319 = .ok (.iaload, 1) := by decide +kernel
theorem dL_law_320 : decode cL_law 320 = .ok (.invokevirtual 162, 3) := by decide +kernel
theorem zw_1221 : Cond.methodLink RL 162 yX8_addWall ∈ z_Ts := z_m 1221 (by decide +kernel) (by decide +kernel)
theorem zw_1222 : Cond.instanceMethod yX8_addWall ∈ z_Ts := z_m 1222 (by decide +kernel) (by decide +kernel)
theorem zw_1223 : Cond.selects RX8 yX8_addWall yX8_addWall ∈ z_Ts := z_m 1223 (by decide +kernel) (by decide +kernel)
theorem zw_1224 : Cond.code yX8_addWall cX8_addWall 8 (some .int) ∈ z_Ts := z_m 1224 (by decide +kernel) (by decide +kernel)
theorem dL_law_323 : decode cL_law 323 = .ok (.istore 7, 2) := by decide +kernel
theorem dL_law_325 : decode cL_law 325 = .ok (.aload_n 2, 1) := by decide +kernel
theorem dL_law_326 : decode cL_law 326 = .ok (.invokevirtual 156, 3) := by decide +kernel
theorem dL_law_329 : decode cL_law 329 = .ok (.iload 6, 2) := by decide +kernel
theorem dL_law_331 : decode cL_law 331 = .ok (.if_icmp .eq 5, 3) := by decide +kernel
theorem dL_law_336 : decode cL_law 336 = .ok (.iload 6, 2) := by decide +kernel
theorem dL_law_338 : decode cL_law 338 = .ok (.ifCond .ne 15, 3) := by decide +kernel
theorem dL_law_353 : decode cL_law 353 = .ok (.goto 2310, 3) := by decide +kernel
set_option maxHeartbeats 4000000 in
set_option maxRecDepth 100000 in
theorem law_1 {p : Program} {l : Launch} {e : Env} {s : State} {m : MethodId} {below : List Frame} {meth : Method} {c : Code} {b L : Nat} {xs : Nat → Int32} {D : va_G} {A : Nat → Prop} (C0 : lw_At p s m meth c b L xs) (hL7 : L = 7) (hst : l.stackTraces = false) (hE : z_E s) (hX : z_X D A s s.heap) (hA : ∀ q, s.heap.size ≤ q → A q) (hbA : ¬ A b) (hAF : ∀ q, A q → s.heap.size ≤ q) {h0 hu hs hc hp hg u0 ul w0 go gs ge gb m0 qu qs qc qp qo qd : Nat} {cU cC cP cS cB cM cJ cD : ClassId} {fu fc : Nat → Option Nat} {fp fm : Nat → Int32} (hfu : fu 0 = some u0) (hfc : fc 0 = some w0) (hfp : ∀ j : Nat, j < 7 → fp j = 100) (hfm : ∀ j : Nat, j < 7 → fm j = 100) {H : Heap} {locs : List Loc} (hK : va_K D vwCl [(cU, .object RX3), (cC, .object RX0), (cP, .int), (cS, .int), (cB, .int), (cM, .int), (cJ, .long), (cD, .double)] s) (hP : va_P D vwCl [(h0, .inr (6, [.ref hu, .ref hs, .ref hc, .ref hp, .ref hg, .int 0, .int 0, .int 0, .int 0, .int 0])), (hu, .inl (cU, 10, .inr (.inr (.inr (.inr fu))))), (u0, .inr (5, [.ref ul, .int 0, .int 0, .int 45, .int 0, .int 0, .int (-1)])), (hc, .inl (cC, 4, .inr (.inr (.inr (.inr fc))))), (w0, .inr (2, [.int 100, .int (-1)])), (hp, .inl (cP, 7, .inl fp)), (hg, .inr (3, [.ref go, .ref gs, .ref ge, .ref gb, .int 0, .int 0, .int 0, .int 0])), (gs, .inl (cS, 10, .inl (fun _ => 0))), (gb, .inl (cB, 10, .inl (fun _ => 0))), (m0, .inr (10, [.int 0, .ref qu, .ref qs, .ref qc, .ref qp, .int 0, .int (-1), .int 0, .null])), (qu, .inr (1, [.int 0, .ref (D.2 50 0), .int 0])), (qs, .inr (1, [.int 0, .ref (D.2 50 0), .int 0])), (qc, .inr (1, [.int 0, .ref (D.2 50 0), .int 0])), (qp, .inl (cM, 7, .inl fm)), (qo, .inl (cJ, 1, .inr (.inl (fun _ => 0)))), (qd, .inl (cD, 1, .inr (.inr (.inr (.inl (fun _ => 0))))))] H) (hD : va_D A [(h0, .inr (6, [.ref hu, .ref hs, .ref hc, .ref hp, .ref hg, .int 0, .int 0, .int 0, .int 0, .int 0])), (hu, .inl (cU, 10, .inr (.inr (.inr (.inr fu))))), (u0, .inr (5, [.ref ul, .int 0, .int 0, .int 45, .int 0, .int 0, .int (-1)])), (hc, .inl (cC, 4, .inr (.inr (.inr (.inr fc))))), (w0, .inr (2, [.int 100, .int (-1)])), (hp, .inl (cP, 7, .inl fp)), (hg, .inr (3, [.ref go, .ref gs, .ref ge, .ref gb, .int 0, .int 0, .int 0, .int 0])), (gs, .inl (cS, 10, .inl (fun _ => 0))), (gb, .inl (cB, 10, .inl (fun _ => 0))), (m0, .inr (10, [.int 0, .ref qu, .ref qs, .ref qc, .ref qp, .int 0, .int (-1), .int 0, .null])), (qu, .inr (1, [.int 0, .ref (D.2 50 0), .int 0])), (qs, .inr (1, [.int 0, .ref (D.2 50 0), .int 0])), (qc, .inr (1, [.int 0, .ref (D.2 50 0), .int 0])), (qp, .inl (cM, 7, .inl fm)), (qo, .inl (cJ, 1, .inr (.inl (fun _ => 0)))), (qd, .inl (cD, 1, .inr (.inr (.inr (.inl (fun _ => 0))))))]) (hS : va_S A s.heap H locs) {ls : Array Slot} (hl : lv_has ls 9 [(5, .int 0), (4, .ref qd), (3, .ref qo), (2, .ref m0), (1, .ref h0), (0, .ref b)]) : W p l e room_1 s m #[Value.ref b] below meth c H locs 62 437 (lw_Z below #[Value.ref b] s) (F0 m 288 ls []) := by
  obtain ⟨hx, hb, hr, hml, hown, hts0, hXs, hbl, hlocks, hgv⟩ := id C0
  have hts := z_E.ts (args := #[Value.ref b]) hE
  have hown : s.vm.findClass RL = some m.cls := hown
  refine lv_aload_n hx hb dL_law_288 rfl (lv_at hl 4 rfl) ?_
  refine lv_aload_n hx hb dL_law_289 rfl (lv_at hl 5 rfl) ?_
  refine lv_iload hx hb dL_law_290 (lv_at hl 0 rfl) ?_
  refine lv_iconst (v := 1) hx hb dL_law_292 (by decide) ?_
  refine lv_iadd hx hb dL_law_293 ?_
  refine lv_topi (fun x_1 ex_1 => ?_)
  obtain rfl : x_1 = 1 := ex_1.trans (by first | rfl | decide | simp)
  refine va_sld (i := 1) hx hb hXs hbl hbA hS (by rw [hL7]; unfold vp_in; decide) dL_law_294 ?_
  refine lv_topi (fun a_2 ea_2 => ?_)
  refine lv_aload_n hx hb dL_law_295 rfl (lv_at hl 5 rfl) ?_
  refine lv_iload hx hb dL_law_296 (lv_at hl 0 rfl) ?_
  refine lv_iconst (v := 2) hx hb dL_law_298 (by decide) ?_
  refine lv_iadd hx hb dL_law_299 ?_
  refine lv_topi (fun x_3 ex_3 => ?_)
  obtain rfl : x_3 = 2 := ex_3.trans (by first | rfl | decide | simp)
  refine va_sld (i := 2) hx hb hXs hbl hbA hS (by rw [hL7]; unfold vp_in; decide) dL_law_300 ?_
  refine lv_topi (fun a_4 ea_4 => ?_)
  refine lv_aload_n hx hb dL_law_301 rfl (lv_at hl 2 rfl) ?_
  obtain ⟨hb_6, hc_6⟩ := z_call (wc := [(h0, .inr (6, [.ref hu, .ref hs, .ref hc, .ref hp, .ref hg, .int 0, .int 0, .int 0, .int 0, .int 0])), (qo, .inl (cJ, 1, .inr (.inl (fun _ => 0))))]) (tc := [(cJ, .long)]) ([.ref h0, .int a_2, .int a_4, .ref qo]) hP hK hD hS hA hE hX [0, 14] rfl rfl [6] rfl
  have hF_6 := va_free (wc := [(h0, .inr (6, [.ref hu, .ref hs, .ref hc, .ref hp, .ref hg, .int 0, .int 0, .int 0, .int 0, .int 0])), (qo, .inl (cJ, 1, .inr (.inl (fun _ => 0))))]) hD hS hA [0, 14] rfl
  refine vx_calli (vx_runSX (As := [.ref h0, .int a_2, .int a_4, .ref qo]) (rest := []) ⟨hx, hb, hml, hown, hts⟩ (f_L_addWall l hst D h0 hu hs hc hp hg 0 0 a_2 a_4 qo (fun _ => 0) cJ _ ) (z_cSW 4 hE zw_517 zw_518 zw_90 zw_519 rfl rfl rfl (by decide +kernel) ⟨(Nat.le_of_ble_eq_true rfl), (Nat.le_of_ble_eq_true rfl)⟩) ⟨hb_6, hc_6⟩ rfl rfl hl.1 rfl (lv_room (Nat.le_of_ble_eq_true rfl)) dL_law_302 ⟨(Nat.le_of_ble_eq_true rfl), (Nat.le_of_ble_eq_true rfl)⟩) hS (fun q _ h => hF_6 q h) hF_6 (fun q _ h => hF_6 q h) (fun E_6 ce_6 q9_6 u_6 t_6 H1 locs ht_6 hvm_6 hw_6 hB_6 hz_6 hk_6 hS1 hce_6 hcv_6 hcl_6 => ?_) (fun r_6 u_6 t_6 H1 locs ht_6 hvm_6 hw_6 hB_6 hz_6 hk_6 hS1 => ?_)
  · exact hw_6.elim
  · obtain ⟨hP, hK, hD⟩ := z_back (wc := [(h0, .inr (6, [.ref hu, .ref hs, .ref hc, .ref hp, .ref hg, .int 0, .int 0, .int 0, .int 0, .int 0])), (qo, .inl (cJ, 1, .inr (.inl (fun _ => 0))))]) (wr := [(hu, .inl (cU, 10, .inr (.inr (.inr (.inr fu))))), (u0, .inr (5, [.ref ul, .int 0, .int 0, .int 45, .int 0, .int 0, .int (-1)])), (hc, .inl (cC, 4, .inr (.inr (.inr (.inr fc))))), (w0, .inr (2, [.int 100, .int (-1)])), (hp, .inl (cP, 7, .inl fp)), (hg, .inr (3, [.ref go, .ref gs, .ref ge, .ref gb, .int 0, .int 0, .int 0, .int 0])), (gs, .inl (cS, 10, .inl (fun _ => 0))), (gb, .inl (cB, 10, .inl (fun _ => 0))), (m0, .inr (10, [.int 0, .ref qu, .ref qs, .ref qc, .ref qp, .int 0, .int (-1), .int 0, .null])), (qu, .inr (1, [.int 0, .ref (D.2 50 0), .int 0])), (qs, .inr (1, [.int 0, .ref (D.2 50 0), .int 0])), (qc, .inr (1, [.int 0, .ref (D.2 50 0), .int 0])), (qp, .inl (cM, 7, .inl fm)), (qd, .inl (cD, 1, .inr (.inr (.inr (.inl (fun _ => 0))))))]) (w1 := [(h0, .inr (6, [.ref hu, .ref hs, .ref hc, .ref hp, .ref hg, .int 0, .int 0, .int 0, .int 0, .int 0])), (qo, .inl (cJ, 1, .inr (.inl (fun _ => 0))))]) (tr := [(cU, .object RX3), (cC, .object RX0), (cP, .int), (cS, .int), (cB, .int), (cM, .int), (cD, .double)]) hP hK hD [0, 14] [1, 2, 3, 4, 5, 6, 7, 8, 9, 10, 11, 12, 13, 15] rfl rfl rfl (by decide) ht_6 hvm_6 hk_6 hF_6 [0, 1, 2, 3, 4, 5, 7] rfl hB_6
    have hS := hS1
    have hP : va_P D vwCl [(hu, .inl (cU, 10, .inr (.inr (.inr (.inr fu))))), (u0, .inr (5, [.ref ul, .int 0, .int 0, .int 45, .int 0, .int 0, .int (-1)])), (hc, .inl (cC, 4, .inr (.inr (.inr (.inr fc))))), (w0, .inr (2, [.int 100, .int (-1)])), (hp, .inl (cP, 7, .inl fp)), (hg, .inr (3, [.ref go, .ref gs, .ref ge, .ref gb, .int 0, .int 0, .int 0, .int 0])), (gs, .inl (cS, 10, .inl (fun _ => 0))), (gb, .inl (cB, 10, .inl (fun _ => 0))), (m0, .inr (10, [.int 0, .ref qu, .ref qs, .ref qc, .ref qp, .int 0, .int (-1), .int 0, .null])), (qu, .inr (1, [.int 0, .ref (D.2 50 0), .int 0])), (qs, .inr (1, [.int 0, .ref (D.2 50 0), .int 0])), (qc, .inr (1, [.int 0, .ref (D.2 50 0), .int 0])), (qp, .inl (cM, 7, .inl fm)), (qd, .inl (cD, 1, .inr (.inr (.inr (.inl (fun _ => 0)))))), (h0, .inr (6, [.ref hu, .ref hs, .ref hc, .ref hp, .ref hg, .int 0, .int 0, .int 0, .int 0, .int 0])), (qo, .inl (cJ, 1, .inr (.inl (fun _ => 0))))] H1 := hP
    have hD : va_D A [(hu, .inl (cU, 10, .inr (.inr (.inr (.inr fu))))), (u0, .inr (5, [.ref ul, .int 0, .int 0, .int 45, .int 0, .int 0, .int (-1)])), (hc, .inl (cC, 4, .inr (.inr (.inr (.inr fc))))), (w0, .inr (2, [.int 100, .int (-1)])), (hp, .inl (cP, 7, .inl fp)), (hg, .inr (3, [.ref go, .ref gs, .ref ge, .ref gb, .int 0, .int 0, .int 0, .int 0])), (gs, .inl (cS, 10, .inl (fun _ => 0))), (gb, .inl (cB, 10, .inl (fun _ => 0))), (m0, .inr (10, [.int 0, .ref qu, .ref qs, .ref qc, .ref qp, .int 0, .int (-1), .int 0, .null])), (qu, .inr (1, [.int 0, .ref (D.2 50 0), .int 0])), (qs, .inr (1, [.int 0, .ref (D.2 50 0), .int 0])), (qc, .inr (1, [.int 0, .ref (D.2 50 0), .int 0])), (qp, .inl (cM, 7, .inl fm)), (qd, .inl (cD, 1, .inr (.inr (.inr (.inl (fun _ => 0)))))), (h0, .inr (6, [.ref hu, .ref hs, .ref hc, .ref hp, .ref hg, .int 0, .int 0, .int 0, .int 0, .int 0])), (qo, .inl (cJ, 1, .inr (.inl (fun _ => 0))))] := hD
    have hK : va_K D vwCl [(cU, .object RX3), (cC, .object RX0), (cP, .int), (cS, .int), (cB, .int), (cM, .int), (cD, .double), (cJ, .long)] s := hK
    clear hS1
    obtain rfl : r_6 = 1 := hw_6
    refine lv_istore (lv' := [(6, .int 1), (5, .int 0), (4, .ref qd), (3, .ref qo), (2, .ref m0), (1, .ref h0), (0, .ref b)]) hx hb dL_law_305 hl (by decide) rfl (fun ls hl => ?_)
    refine lv_aload_n hx hb dL_law_307 rfl (lv_at hl 4 rfl) ?_
    refine lv_aload_n hx hb dL_law_308 rfl (lv_at hl 6 rfl) ?_
    refine lv_iload hx hb dL_law_309 (lv_at hl 1 rfl) ?_
    refine lv_iconst (v := 1) hx hb dL_law_311 (by decide) ?_
    refine lv_iadd hx hb dL_law_312 ?_
    refine lv_topi (fun x_7 ex_7 => ?_)
    obtain rfl : x_7 = 1 := ex_7.trans (by first | rfl | decide | simp)
    refine va_sld (i := 1) hx hb hXs hbl hbA hS (by rw [hL7]; unfold vp_in; decide) dL_law_313 ?_
    refine lv_topi (fun a_8 ea_8 => ?_)
    obtain rfl : a_2 = a_8 := ea_2.trans ea_8.symm
    refine lv_aload_n hx hb dL_law_314 rfl (lv_at hl 6 rfl) ?_
    refine lv_iload hx hb dL_law_315 (lv_at hl 1 rfl) ?_
    refine lv_iconst (v := 2) hx hb dL_law_317 (by decide) ?_
    refine lv_iadd hx hb dL_law_318 ?_
    refine lv_topi (fun x_9 ex_9 => ?_)
    obtain rfl : x_9 = 2 := ex_9.trans (by first | rfl | decide | simp)
    refine va_sld (i := 2) hx hb hXs hbl hbA hS (by rw [hL7]; unfold vp_in; decide) dL_law_319 ?_
    refine lv_topi (fun a_10 ea_10 => ?_)
    obtain rfl : a_4 = a_10 := ea_4.trans ea_10.symm
    obtain ⟨hb_11, hc_11⟩ := z_call (wc := [(m0, .inr (10, [.int 0, .ref qu, .ref qs, .ref qc, .ref qp, .int 0, .int (-1), .int 0, .null])), (qu, .inr (1, [.int 0, .ref (D.2 50 0), .int 0]))]) (tc := []) ([.ref m0, .int a_2, .int a_4]) hP hK hD hS hA hE hX [8, 9] rfl rfl [] rfl
    have hF_11 := va_free (wc := [(m0, .inr (10, [.int 0, .ref qu, .ref qs, .ref qc, .ref qp, .int 0, .int (-1), .int 0, .null])), (qu, .inr (1, [.int 0, .ref (D.2 50 0), .int 0]))]) hD hS hA [8, 9] rfl
    refine va_calli (va_runV (As := [.int a_2, .int a_4]) (rest := []) ⟨hx, hb, hml, hown, hts⟩ (f_X8_addWall l D m0 qu qs qc qp 0 (D.2 50 0) a_2 a_4 _ ) (z_cV 2 hE zw_1221 zw_1222 zw_1223 zw_96 zw_1224 rfl rfl rfl (by decide +kernel) ⟨(Nat.le_of_ble_eq_true rfl), (Nat.le_of_ble_eq_true rfl)⟩) ⟨hb_11, va_recv hK hP (ci := 10) (q0 := 8) rfl rfl, hc_11⟩ rfl rfl hl.1 rfl (lv_room (Nat.le_of_ble_eq_true rfl)) dL_law_320 ⟨(Nat.le_of_ble_eq_true rfl), (Nat.le_of_ble_eq_true rfl)⟩) hS (fun q _ h => hF_11 q h) hF_11 (fun r_11 u_11 t_11 H1 locs ht_11 hvm_11 hw_11 hB_11 hz_11 hk_11 hS1 => ?_)
    obtain ⟨hP, hK, hD⟩ := z_back (wc := [(m0, .inr (10, [.int 0, .ref qu, .ref qs, .ref qc, .ref qp, .int 0, .int (-1), .int 0, .null])), (qu, .inr (1, [.int 0, .ref (D.2 50 0), .int 0]))]) (wr := [(hu, .inl (cU, 10, .inr (.inr (.inr (.inr fu))))), (u0, .inr (5, [.ref ul, .int 0, .int 0, .int 45, .int 0, .int 0, .int (-1)])), (hc, .inl (cC, 4, .inr (.inr (.inr (.inr fc))))), (w0, .inr (2, [.int 100, .int (-1)])), (hp, .inl (cP, 7, .inl fp)), (hg, .inr (3, [.ref go, .ref gs, .ref ge, .ref gb, .int 0, .int 0, .int 0, .int 0])), (gs, .inl (cS, 10, .inl (fun _ => 0))), (gb, .inl (cB, 10, .inl (fun _ => 0))), (qs, .inr (1, [.int 0, .ref (D.2 50 0), .int 0])), (qc, .inr (1, [.int 0, .ref (D.2 50 0), .int 0])), (qp, .inl (cM, 7, .inl fm)), (qd, .inl (cD, 1, .inr (.inr (.inr (.inl (fun _ => 0)))))), (h0, .inr (6, [.ref hu, .ref hs, .ref hc, .ref hp, .ref hg, .int 0, .int 0, .int 0, .int 0, .int 0])), (qo, .inl (cJ, 1, .inr (.inl (fun _ => 0))))]) (w1 := [(m0, .inr (10, [.int 1, .ref qu, .ref qs, .ref qc, .ref qp, .int 0, .int (-1), .int 0, .null])), (qu, .inr (1, [.int 0, .ref (D.2 50 0), .int 0]))]) (tr := [(cU, .object RX3), (cC, .object RX0), (cP, .int), (cS, .int), (cB, .int), (cM, .int), (cD, .double), (cJ, .long)]) hP hK hD [8, 9] [0, 1, 2, 3, 4, 5, 6, 7, 10, 11, 12, 13, 14, 15] rfl rfl rfl (by decide) ht_11 hvm_11 hk_11 hF_11 [0, 1, 2, 3, 4, 5, 6, 7] rfl hB_11
    have hS := hS1
    have hP : va_P D vwCl [(hu, .inl (cU, 10, .inr (.inr (.inr (.inr fu))))), (u0, .inr (5, [.ref ul, .int 0, .int 0, .int 45, .int 0, .int 0, .int (-1)])), (hc, .inl (cC, 4, .inr (.inr (.inr (.inr fc))))), (w0, .inr (2, [.int 100, .int (-1)])), (hp, .inl (cP, 7, .inl fp)), (hg, .inr (3, [.ref go, .ref gs, .ref ge, .ref gb, .int 0, .int 0, .int 0, .int 0])), (gs, .inl (cS, 10, .inl (fun _ => 0))), (gb, .inl (cB, 10, .inl (fun _ => 0))), (qs, .inr (1, [.int 0, .ref (D.2 50 0), .int 0])), (qc, .inr (1, [.int 0, .ref (D.2 50 0), .int 0])), (qp, .inl (cM, 7, .inl fm)), (qd, .inl (cD, 1, .inr (.inr (.inr (.inl (fun _ => 0)))))), (h0, .inr (6, [.ref hu, .ref hs, .ref hc, .ref hp, .ref hg, .int 0, .int 0, .int 0, .int 0, .int 0])), (qo, .inl (cJ, 1, .inr (.inl (fun _ => 0)))), (m0, .inr (10, [.int 1, .ref qu, .ref qs, .ref qc, .ref qp, .int 0, .int (-1), .int 0, .null])), (qu, .inr (1, [.int 0, .ref (D.2 50 0), .int 0]))] H1 := hP
    have hD : va_D A [(hu, .inl (cU, 10, .inr (.inr (.inr (.inr fu))))), (u0, .inr (5, [.ref ul, .int 0, .int 0, .int 45, .int 0, .int 0, .int (-1)])), (hc, .inl (cC, 4, .inr (.inr (.inr (.inr fc))))), (w0, .inr (2, [.int 100, .int (-1)])), (hp, .inl (cP, 7, .inl fp)), (hg, .inr (3, [.ref go, .ref gs, .ref ge, .ref gb, .int 0, .int 0, .int 0, .int 0])), (gs, .inl (cS, 10, .inl (fun _ => 0))), (gb, .inl (cB, 10, .inl (fun _ => 0))), (qs, .inr (1, [.int 0, .ref (D.2 50 0), .int 0])), (qc, .inr (1, [.int 0, .ref (D.2 50 0), .int 0])), (qp, .inl (cM, 7, .inl fm)), (qd, .inl (cD, 1, .inr (.inr (.inr (.inl (fun _ => 0)))))), (h0, .inr (6, [.ref hu, .ref hs, .ref hc, .ref hp, .ref hg, .int 0, .int 0, .int 0, .int 0, .int 0])), (qo, .inl (cJ, 1, .inr (.inl (fun _ => 0)))), (m0, .inr (10, [.int 1, .ref qu, .ref qs, .ref qc, .ref qp, .int 0, .int (-1), .int 0, .null])), (qu, .inr (1, [.int 0, .ref (D.2 50 0), .int 0]))] := hD
    have hK : va_K D vwCl [(cU, .object RX3), (cC, .object RX0), (cP, .int), (cS, .int), (cB, .int), (cM, .int), (cD, .double), (cJ, .long)] s := hK
    clear hS1
    refine lv_istore (lv' := [(7, .int r_11), (6, .int 1), (5, .int 0), (4, .ref qd), (3, .ref qo), (2, .ref m0), (1, .ref h0), (0, .ref b)]) hx hb dL_law_323 hl (by decide) rfl (fun ls hl => ?_)
    refine lv_aload_n hx hb dL_law_325 rfl (lv_at hl 5 rfl) ?_
    obtain ⟨hb_12, hc_12⟩ := z_call (wc := [(m0, .inr (10, [.int 1, .ref qu, .ref qs, .ref qc, .ref qp, .int 0, .int (-1), .int 0, .null]))]) (tc := []) ([.ref m0]) hP hK hD hS hA hE hX [14] rfl rfl [] rfl
    have hF_12 := va_free (wc := [(m0, .inr (10, [.int 1, .ref qu, .ref qs, .ref qc, .ref qp, .int 0, .int (-1), .int 0, .null]))]) hD hS hA [14] rfl
    refine va_calli (va_runV (As := []) (rest := []) ⟨hx, hb, hml, hown, hts⟩ (c_X8_thrown l D m0 qu qs qc qp 1 0 (-1) 0 .null _ ) (z_cV 0 hE zw_1108 zw_1109 zw_1110 zw_96 zw_1111 rfl rfl rfl (by decide +kernel) ⟨(Nat.le_of_ble_eq_true rfl), (Nat.le_of_ble_eq_true rfl)⟩) ⟨hb_12, va_recv hK hP (ci := 10) (q0 := 14) rfl rfl, hc_12⟩ rfl rfl hl.1 rfl (lv_room (Nat.le_of_ble_eq_true rfl)) dL_law_326 ⟨(Nat.le_of_ble_eq_true rfl), (Nat.le_of_ble_eq_true rfl)⟩) hS (fun q _ h => hF_12 q h) hF_12 (fun r_12 u_12 t_12 H1 locs ht_12 hvm_12 hw_12 hB_12 hz_12 hk_12 hS1 => ?_)
    obtain ⟨hP, hK, hD⟩ := z_back (wc := [(m0, .inr (10, [.int 1, .ref qu, .ref qs, .ref qc, .ref qp, .int 0, .int (-1), .int 0, .null]))]) (wr := [(hu, .inl (cU, 10, .inr (.inr (.inr (.inr fu))))), (u0, .inr (5, [.ref ul, .int 0, .int 0, .int 45, .int 0, .int 0, .int (-1)])), (hc, .inl (cC, 4, .inr (.inr (.inr (.inr fc))))), (w0, .inr (2, [.int 100, .int (-1)])), (hp, .inl (cP, 7, .inl fp)), (hg, .inr (3, [.ref go, .ref gs, .ref ge, .ref gb, .int 0, .int 0, .int 0, .int 0])), (gs, .inl (cS, 10, .inl (fun _ => 0))), (gb, .inl (cB, 10, .inl (fun _ => 0))), (qs, .inr (1, [.int 0, .ref (D.2 50 0), .int 0])), (qc, .inr (1, [.int 0, .ref (D.2 50 0), .int 0])), (qp, .inl (cM, 7, .inl fm)), (qd, .inl (cD, 1, .inr (.inr (.inr (.inl (fun _ => 0)))))), (h0, .inr (6, [.ref hu, .ref hs, .ref hc, .ref hp, .ref hg, .int 0, .int 0, .int 0, .int 0, .int 0])), (qo, .inl (cJ, 1, .inr (.inl (fun _ => 0)))), (qu, .inr (1, [.int 0, .ref (D.2 50 0), .int 0]))]) (w1 := [(m0, .inr (10, [.int 1, .ref qu, .ref qs, .ref qc, .ref qp, .int 0, .int (-1), .int 0, .null]))]) (tr := [(cU, .object RX3), (cC, .object RX0), (cP, .int), (cS, .int), (cB, .int), (cM, .int), (cD, .double), (cJ, .long)]) hP hK hD [14] [0, 1, 2, 3, 4, 5, 6, 7, 8, 9, 10, 11, 12, 13, 15] rfl rfl rfl (by decide) ht_12 hvm_12 hk_12 hF_12 [0, 1, 2, 3, 4, 5, 6, 7] rfl hB_12
    have hS := hS1
    have hP : va_P D vwCl [(hu, .inl (cU, 10, .inr (.inr (.inr (.inr fu))))), (u0, .inr (5, [.ref ul, .int 0, .int 0, .int 45, .int 0, .int 0, .int (-1)])), (hc, .inl (cC, 4, .inr (.inr (.inr (.inr fc))))), (w0, .inr (2, [.int 100, .int (-1)])), (hp, .inl (cP, 7, .inl fp)), (hg, .inr (3, [.ref go, .ref gs, .ref ge, .ref gb, .int 0, .int 0, .int 0, .int 0])), (gs, .inl (cS, 10, .inl (fun _ => 0))), (gb, .inl (cB, 10, .inl (fun _ => 0))), (qs, .inr (1, [.int 0, .ref (D.2 50 0), .int 0])), (qc, .inr (1, [.int 0, .ref (D.2 50 0), .int 0])), (qp, .inl (cM, 7, .inl fm)), (qd, .inl (cD, 1, .inr (.inr (.inr (.inl (fun _ => 0)))))), (h0, .inr (6, [.ref hu, .ref hs, .ref hc, .ref hp, .ref hg, .int 0, .int 0, .int 0, .int 0, .int 0])), (qo, .inl (cJ, 1, .inr (.inl (fun _ => 0)))), (qu, .inr (1, [.int 0, .ref (D.2 50 0), .int 0])), (m0, .inr (10, [.int 1, .ref qu, .ref qs, .ref qc, .ref qp, .int 0, .int (-1), .int 0, .null]))] H1 := hP
    have hD : va_D A [(hu, .inl (cU, 10, .inr (.inr (.inr (.inr fu))))), (u0, .inr (5, [.ref ul, .int 0, .int 0, .int 45, .int 0, .int 0, .int (-1)])), (hc, .inl (cC, 4, .inr (.inr (.inr (.inr fc))))), (w0, .inr (2, [.int 100, .int (-1)])), (hp, .inl (cP, 7, .inl fp)), (hg, .inr (3, [.ref go, .ref gs, .ref ge, .ref gb, .int 0, .int 0, .int 0, .int 0])), (gs, .inl (cS, 10, .inl (fun _ => 0))), (gb, .inl (cB, 10, .inl (fun _ => 0))), (qs, .inr (1, [.int 0, .ref (D.2 50 0), .int 0])), (qc, .inr (1, [.int 0, .ref (D.2 50 0), .int 0])), (qp, .inl (cM, 7, .inl fm)), (qd, .inl (cD, 1, .inr (.inr (.inr (.inl (fun _ => 0)))))), (h0, .inr (6, [.ref hu, .ref hs, .ref hc, .ref hp, .ref hg, .int 0, .int 0, .int 0, .int 0, .int 0])), (qo, .inl (cJ, 1, .inr (.inl (fun _ => 0)))), (qu, .inr (1, [.int 0, .ref (D.2 50 0), .int 0])), (m0, .inr (10, [.int 1, .ref qu, .ref qs, .ref qc, .ref qp, .int 0, .int (-1), .int 0, .null]))] := hD
    have hK : va_K D vwCl [(cU, .object RX3), (cC, .object RX0), (cP, .int), (cS, .int), (cB, .int), (cM, .int), (cD, .double), (cJ, .long)] s := hK
    clear hS1
    obtain rfl : r_12 = 1 := hw_12
    refine lv_iload hx hb dL_law_329 (lv_at hl 1 rfl) ?_
    refine lv_icmp_eq (tgt := 336) hx hb dL_law_331 (by decide) (fun c_13 => ?_) (fun c_13 => absurd (by decide) c_13)
    refine lv_iload hx hb dL_law_336 (lv_at hl 1 rfl) ?_
    refine lv_if_ne (tgt := 353) hx hb dL_law_338 (by decide) (fun c_14 => ?_) (fun c_14 => absurd c_14 (by decide))
    refine lv_goto (tgt := 2663) hx hb dL_law_353 (by decide) ?_
    exact law_end C0 hL7 hAF hbA hS (lv_sub (l' := [(5, .int 0), (0, .ref b)]) hl [2, 7] rfl) (Nat.le_of_ble_eq_true rfl) (Nat.le_of_ble_eq_true rfl)
theorem dL_law_356 : decode cL_law 356 = .ok (.aload_n 1, 1) := by decide +kernel
theorem dL_law_357 : decode cL_law 357 = .ok (.aload_n 0, 1) := by decide +kernel
theorem dL_law_358 : decode cL_law 358 = .ok (.iload 5, 2) := by decide +kernel
theorem dL_law_360 : decode cL_law 360 = .ok (.iconst 1, 1) := by decide +kernel
theorem dL_law_361 : decode cL_law 361 = .ok (.iadd, 1) := by decide +kernel
theorem dL_law_362 : decode cL_law 362 = .ok (.iaload, 1) := by decide +kernel
theorem dL_law_363 : decode cL_law 363 = .ok (.aload_n 0, 1) := by decide +kernel
theorem dL_law_364 : decode cL_law 364 = .ok (.iload 5, 2) := by decide +kernel
theorem dL_law_366 : decode cL_law 366 = .ok (.iconst 2, 1) := by decide +kernel
theorem dL_law_367 : decode cL_law 367 = .ok (.iadd, 1) := by decide +kernel
theorem dL_law_368 : decode cL_law 368 = .ok (.iaload, 1) := by decide +kernel
theorem dL_law_369 : decode cL_law 369 = .ok (.aload_n 3, 1) := by decide +kernel
theorem dL_law_370 : decode cL_law 370 = .ok (.invokestatic 163, 3) := by decide +kernel
theorem zw_551 : Cond.methodLink RL 163 yL_plan ∈ z_Ts := z_m 551 (by decide +kernel) (by decide +kernel)
theorem zw_552 : Cond.static yL_plan ∈ z_Ts := z_m 552 (by decide +kernel) (by decide +kernel)
theorem zw_553 : Cond.codeWith yL_plan cL_plan 5 (some .int) [(0, 10, 13, 23), (0, 10, 17, 13), (0, 10, 21, 15)] ∈ z_Ts := z_m 553 (by decide +kernel) (by decide +kernel)
theorem dL_law_373 : decode cL_law 373 = .ok (.istore 6, 2) := by decide +kernel
theorem dL_law_375 : decode cL_law 375 = .ok (.aload_n 2, 1) := by decide +kernel
theorem dL_law_376 : decode cL_law 376 = .ok (.aload_n 0, 1) := by decide +kernel
theorem dL_law_377 : decode cL_law 377 = .ok (.iload 5, 2) := by decide +kernel
theorem dL_law_379 : decode cL_law 379 = .ok (.iconst 1, 1) := by decide +kernel
theorem dL_law_380 : decode cL_law 380 = .ok (.iadd, 1) := by decide +kernel
theorem dL_law_381 : decode cL_law 381 = .ok (.iaload, 1) := by decide +kernel
theorem dL_law_382 : decode cL_law 382 = .ok (.aload_n 0, 1) := by decide +kernel
theorem dL_law_383 : decode cL_law 383 = .ok (.iload 5, 2) := by decide +kernel
theorem dL_law_385 : decode cL_law 385 = .ok (.iconst 2, 1) := by decide +kernel
theorem dL_law_386 : decode cL_law 386 = .ok (.iadd, 1) := by decide +kernel
theorem dL_law_387 : decode cL_law 387 = .ok (.iaload, 1) := by decide +kernel
theorem dL_law_388 : decode cL_law 388 = .ok (.invokevirtual 165, 3) := by decide +kernel
theorem zw_1247 : Cond.methodLink RL 165 yX8_plan ∈ z_Ts := z_m 1247 (by decide +kernel) (by decide +kernel)
theorem zw_1248 : Cond.instanceMethod yX8_plan ∈ z_Ts := z_m 1248 (by decide +kernel) (by decide +kernel)
theorem zw_1249 : Cond.selects RX8 yX8_plan yX8_plan ∈ z_Ts := z_m 1249 (by decide +kernel) (by decide +kernel)
theorem zw_1250 : Cond.code yX8_plan cX8_plan 7 (some .int) ∈ z_Ts := z_m 1250 (by decide +kernel) (by decide +kernel)
theorem dL_law_391 : decode cL_law 391 = .ok (.istore 7, 2) := by decide +kernel
theorem dL_law_393 : decode cL_law 393 = .ok (.aload_n 2, 1) := by decide +kernel
theorem dL_law_394 : decode cL_law 394 = .ok (.invokevirtual 156, 3) := by decide +kernel
theorem dL_law_397 : decode cL_law 397 = .ok (.iload 6, 2) := by decide +kernel
theorem dL_law_399 : decode cL_law 399 = .ok (.if_icmp .eq 5, 3) := by decide +kernel
theorem dL_law_404 : decode cL_law 404 = .ok (.iload 6, 2) := by decide +kernel
theorem dL_law_406 : decode cL_law 406 = .ok (.ifCond .ne 15, 3) := by decide +kernel
theorem dL_law_421 : decode cL_law 421 = .ok (.goto 2242, 3) := by decide +kernel
set_option maxHeartbeats 4000000 in
set_option maxRecDepth 100000 in
theorem law_2 {p : Program} {l : Launch} {e : Env} {s : State} {m : MethodId} {below : List Frame} {meth : Method} {c : Code} {b L : Nat} {xs : Nat → Int32} {D : va_G} {A : Nat → Prop} (C0 : lw_At p s m meth c b L xs) (hL7 : L = 7) (hst : l.stackTraces = false) (hE : z_E s) (hX : z_X D A s s.heap) (hA : ∀ q, s.heap.size ≤ q → A q) (hbA : ¬ A b) (hAF : ∀ q, A q → s.heap.size ≤ q) {h0 hu hs hc hp hg u0 ul w0 go gs ge gb m0 qu qs qc qp qo qd : Nat} {cU cC cP cS cB cM cJ cD : ClassId} {fu fc : Nat → Option Nat} {fp fm : Nat → Int32} (hfu : fu 0 = some u0) (hfc : fc 0 = some w0) (hfp : ∀ j : Nat, j < 7 → fp j = 100) (hfm : ∀ j : Nat, j < 7 → fm j = 100) {H : Heap} {locs : List Loc} (hK : va_K D vwCl [(cU, .object RX3), (cC, .object RX0), (cP, .int), (cS, .int), (cB, .int), (cM, .int), (cJ, .long), (cD, .double)] s) (hP : va_P D vwCl [(h0, .inr (6, [.ref hu, .ref hs, .ref hc, .ref hp, .ref hg, .int 0, .int 0, .int 0, .int 0, .int 0])), (hu, .inl (cU, 10, .inr (.inr (.inr (.inr fu))))), (u0, .inr (5, [.ref ul, .int 0, .int 0, .int 45, .int 0, .int 0, .int (-1)])), (hc, .inl (cC, 4, .inr (.inr (.inr (.inr fc))))), (w0, .inr (2, [.int 100, .int (-1)])), (hp, .inl (cP, 7, .inl fp)), (hg, .inr (3, [.ref go, .ref gs, .ref ge, .ref gb, .int 0, .int 0, .int 0, .int 0])), (gs, .inl (cS, 10, .inl (fun _ => 0))), (gb, .inl (cB, 10, .inl (fun _ => 0))), (m0, .inr (10, [.int 0, .ref qu, .ref qs, .ref qc, .ref qp, .int 0, .int (-1), .int 0, .null])), (qu, .inr (1, [.int 0, .ref (D.2 50 0), .int 0])), (qs, .inr (1, [.int 0, .ref (D.2 50 0), .int 0])), (qc, .inr (1, [.int 0, .ref (D.2 50 0), .int 0])), (qp, .inl (cM, 7, .inl fm)), (qo, .inl (cJ, 1, .inr (.inl (fun _ => 0)))), (qd, .inl (cD, 1, .inr (.inr (.inr (.inl (fun _ => 0))))))] H) (hD : va_D A [(h0, .inr (6, [.ref hu, .ref hs, .ref hc, .ref hp, .ref hg, .int 0, .int 0, .int 0, .int 0, .int 0])), (hu, .inl (cU, 10, .inr (.inr (.inr (.inr fu))))), (u0, .inr (5, [.ref ul, .int 0, .int 0, .int 45, .int 0, .int 0, .int (-1)])), (hc, .inl (cC, 4, .inr (.inr (.inr (.inr fc))))), (w0, .inr (2, [.int 100, .int (-1)])), (hp, .inl (cP, 7, .inl fp)), (hg, .inr (3, [.ref go, .ref gs, .ref ge, .ref gb, .int 0, .int 0, .int 0, .int 0])), (gs, .inl (cS, 10, .inl (fun _ => 0))), (gb, .inl (cB, 10, .inl (fun _ => 0))), (m0, .inr (10, [.int 0, .ref qu, .ref qs, .ref qc, .ref qp, .int 0, .int (-1), .int 0, .null])), (qu, .inr (1, [.int 0, .ref (D.2 50 0), .int 0])), (qs, .inr (1, [.int 0, .ref (D.2 50 0), .int 0])), (qc, .inr (1, [.int 0, .ref (D.2 50 0), .int 0])), (qp, .inl (cM, 7, .inl fm)), (qo, .inl (cJ, 1, .inr (.inl (fun _ => 0)))), (qd, .inl (cD, 1, .inr (.inr (.inr (.inl (fun _ => 0))))))]) (hS : va_S A s.heap H locs) {ls : Array Slot} (hl : lv_has ls 9 [(5, .int 0), (4, .ref qd), (3, .ref qo), (2, .ref m0), (1, .ref h0), (0, .ref b)]) : W p l e room_1 s m #[Value.ref b] below meth c H locs 62 437 (lw_Z below #[Value.ref b] s) (F0 m 356 ls []) := by
  obtain ⟨hx, hb, hr, hml, hown, hts0, hXs, hbl, hlocks, hgv⟩ := id C0
  have hts := z_E.ts (args := #[Value.ref b]) hE
  have hown : s.vm.findClass RL = some m.cls := hown
  refine lv_aload_n hx hb dL_law_356 rfl (lv_at hl 4 rfl) ?_
  refine lv_aload_n hx hb dL_law_357 rfl (lv_at hl 5 rfl) ?_
  refine lv_iload hx hb dL_law_358 (lv_at hl 0 rfl) ?_
  refine lv_iconst (v := 1) hx hb dL_law_360 (by decide) ?_
  refine lv_iadd hx hb dL_law_361 ?_
  refine lv_topi (fun x_1 ex_1 => ?_)
  obtain rfl : x_1 = 1 := ex_1.trans (by first | rfl | decide | simp)
  refine va_sld (i := 1) hx hb hXs hbl hbA hS (by rw [hL7]; unfold vp_in; decide) dL_law_362 ?_
  refine lv_topi (fun a_2 ea_2 => ?_)
  refine lv_aload_n hx hb dL_law_363 rfl (lv_at hl 5 rfl) ?_
  refine lv_iload hx hb dL_law_364 (lv_at hl 0 rfl) ?_
  refine lv_iconst (v := 2) hx hb dL_law_366 (by decide) ?_
  refine lv_iadd hx hb dL_law_367 ?_
  refine lv_topi (fun x_3 ex_3 => ?_)
  obtain rfl : x_3 = 2 := ex_3.trans (by first | rfl | decide | simp)
  refine va_sld (i := 2) hx hb hXs hbl hbA hS (by rw [hL7]; unfold vp_in; decide) dL_law_368 ?_
  refine lv_topi (fun a_4 ea_4 => ?_)
  refine lv_aload_n hx hb dL_law_369 rfl (lv_at hl 2 rfl) ?_
  obtain ⟨hb_6, hc_6⟩ := z_call (wc := [(h0, .inr (6, [.ref hu, .ref hs, .ref hc, .ref hp, .ref hg, .int 0, .int 0, .int 0, .int 0, .int 0])), (qo, .inl (cJ, 1, .inr (.inl (fun _ => 0))))]) (tc := [(cJ, .long)]) ([.ref h0, .int a_2, .int a_4, .ref qo]) hP hK hD hS hA hE hX [0, 14] rfl rfl [6] rfl
  have hF_6 := va_free (wc := [(h0, .inr (6, [.ref hu, .ref hs, .ref hc, .ref hp, .ref hg, .int 0, .int 0, .int 0, .int 0, .int 0])), (qo, .inl (cJ, 1, .inr (.inl (fun _ => 0))))]) hD hS hA [0, 14] rfl
  refine vx_calli (vx_runSX (As := [.ref h0, .int a_2, .int a_4, .ref qo]) (rest := []) ⟨hx, hb, hml, hown, hts⟩ (f_L_plan l hst D h0 hu hs hc hp hg 0 0 a_2 a_4 qo (fun _ => 0) cJ _ ) (z_cSW 4 hE zw_551 zw_552 zw_90 zw_553 rfl rfl rfl (by decide +kernel) ⟨(Nat.le_of_ble_eq_true rfl), (Nat.le_of_ble_eq_true rfl)⟩) ⟨hb_6, hc_6⟩ rfl rfl hl.1 rfl (lv_room (Nat.le_of_ble_eq_true rfl)) dL_law_370 ⟨(Nat.le_of_ble_eq_true rfl), (Nat.le_of_ble_eq_true rfl)⟩) hS (fun q _ h => hF_6 q h) hF_6 (fun q _ h => hF_6 q h) (fun E_6 ce_6 q9_6 u_6 t_6 H1 locs ht_6 hvm_6 hw_6 hB_6 hz_6 hk_6 hS1 hce_6 hcv_6 hcl_6 => ?_) (fun r_6 u_6 t_6 H1 locs ht_6 hvm_6 hw_6 hB_6 hz_6 hk_6 hS1 => ?_)
  · exact hw_6.elim
  · obtain ⟨hP, hK, hD⟩ := z_back (wc := [(h0, .inr (6, [.ref hu, .ref hs, .ref hc, .ref hp, .ref hg, .int 0, .int 0, .int 0, .int 0, .int 0])), (qo, .inl (cJ, 1, .inr (.inl (fun _ => 0))))]) (wr := [(hu, .inl (cU, 10, .inr (.inr (.inr (.inr fu))))), (u0, .inr (5, [.ref ul, .int 0, .int 0, .int 45, .int 0, .int 0, .int (-1)])), (hc, .inl (cC, 4, .inr (.inr (.inr (.inr fc))))), (w0, .inr (2, [.int 100, .int (-1)])), (hp, .inl (cP, 7, .inl fp)), (hg, .inr (3, [.ref go, .ref gs, .ref ge, .ref gb, .int 0, .int 0, .int 0, .int 0])), (gs, .inl (cS, 10, .inl (fun _ => 0))), (gb, .inl (cB, 10, .inl (fun _ => 0))), (m0, .inr (10, [.int 0, .ref qu, .ref qs, .ref qc, .ref qp, .int 0, .int (-1), .int 0, .null])), (qu, .inr (1, [.int 0, .ref (D.2 50 0), .int 0])), (qs, .inr (1, [.int 0, .ref (D.2 50 0), .int 0])), (qc, .inr (1, [.int 0, .ref (D.2 50 0), .int 0])), (qp, .inl (cM, 7, .inl fm)), (qd, .inl (cD, 1, .inr (.inr (.inr (.inl (fun _ => 0))))))]) (w1 := [(h0, .inr (6, [.ref hu, .ref hs, .ref hc, .ref hp, .ref hg, .int 0, .int 0, .int 0, .int 0, .int 0])), (qo, .inl (cJ, 1, .inr (.inl (fun _ => 0))))]) (tr := [(cU, .object RX3), (cC, .object RX0), (cP, .int), (cS, .int), (cB, .int), (cM, .int), (cD, .double)]) hP hK hD [0, 14] [1, 2, 3, 4, 5, 6, 7, 8, 9, 10, 11, 12, 13, 15] rfl rfl rfl (by decide) ht_6 hvm_6 hk_6 hF_6 [0, 1, 2, 3, 4, 5, 7] rfl hB_6
    have hS := hS1
    have hP : va_P D vwCl [(hu, .inl (cU, 10, .inr (.inr (.inr (.inr fu))))), (u0, .inr (5, [.ref ul, .int 0, .int 0, .int 45, .int 0, .int 0, .int (-1)])), (hc, .inl (cC, 4, .inr (.inr (.inr (.inr fc))))), (w0, .inr (2, [.int 100, .int (-1)])), (hp, .inl (cP, 7, .inl fp)), (hg, .inr (3, [.ref go, .ref gs, .ref ge, .ref gb, .int 0, .int 0, .int 0, .int 0])), (gs, .inl (cS, 10, .inl (fun _ => 0))), (gb, .inl (cB, 10, .inl (fun _ => 0))), (m0, .inr (10, [.int 0, .ref qu, .ref qs, .ref qc, .ref qp, .int 0, .int (-1), .int 0, .null])), (qu, .inr (1, [.int 0, .ref (D.2 50 0), .int 0])), (qs, .inr (1, [.int 0, .ref (D.2 50 0), .int 0])), (qc, .inr (1, [.int 0, .ref (D.2 50 0), .int 0])), (qp, .inl (cM, 7, .inl fm)), (qd, .inl (cD, 1, .inr (.inr (.inr (.inl (fun _ => 0)))))), (h0, .inr (6, [.ref hu, .ref hs, .ref hc, .ref hp, .ref hg, .int 0, .int 0, .int 0, .int 0, .int 0])), (qo, .inl (cJ, 1, .inr (.inl (fun _ => 0))))] H1 := hP
    have hD : va_D A [(hu, .inl (cU, 10, .inr (.inr (.inr (.inr fu))))), (u0, .inr (5, [.ref ul, .int 0, .int 0, .int 45, .int 0, .int 0, .int (-1)])), (hc, .inl (cC, 4, .inr (.inr (.inr (.inr fc))))), (w0, .inr (2, [.int 100, .int (-1)])), (hp, .inl (cP, 7, .inl fp)), (hg, .inr (3, [.ref go, .ref gs, .ref ge, .ref gb, .int 0, .int 0, .int 0, .int 0])), (gs, .inl (cS, 10, .inl (fun _ => 0))), (gb, .inl (cB, 10, .inl (fun _ => 0))), (m0, .inr (10, [.int 0, .ref qu, .ref qs, .ref qc, .ref qp, .int 0, .int (-1), .int 0, .null])), (qu, .inr (1, [.int 0, .ref (D.2 50 0), .int 0])), (qs, .inr (1, [.int 0, .ref (D.2 50 0), .int 0])), (qc, .inr (1, [.int 0, .ref (D.2 50 0), .int 0])), (qp, .inl (cM, 7, .inl fm)), (qd, .inl (cD, 1, .inr (.inr (.inr (.inl (fun _ => 0)))))), (h0, .inr (6, [.ref hu, .ref hs, .ref hc, .ref hp, .ref hg, .int 0, .int 0, .int 0, .int 0, .int 0])), (qo, .inl (cJ, 1, .inr (.inl (fun _ => 0))))] := hD
    have hK : va_K D vwCl [(cU, .object RX3), (cC, .object RX0), (cP, .int), (cS, .int), (cB, .int), (cM, .int), (cD, .double), (cJ, .long)] s := hK
    clear hS1
    obtain rfl : r_6 = 1 := hw_6
    refine lv_istore (lv' := [(6, .int 1), (5, .int 0), (4, .ref qd), (3, .ref qo), (2, .ref m0), (1, .ref h0), (0, .ref b)]) hx hb dL_law_373 hl (by decide) rfl (fun ls hl => ?_)
    refine lv_aload_n hx hb dL_law_375 rfl (lv_at hl 4 rfl) ?_
    refine lv_aload_n hx hb dL_law_376 rfl (lv_at hl 6 rfl) ?_
    refine lv_iload hx hb dL_law_377 (lv_at hl 1 rfl) ?_
    refine lv_iconst (v := 1) hx hb dL_law_379 (by decide) ?_
    refine lv_iadd hx hb dL_law_380 ?_
    refine lv_topi (fun x_7 ex_7 => ?_)
    obtain rfl : x_7 = 1 := ex_7.trans (by first | rfl | decide | simp)
    refine va_sld (i := 1) hx hb hXs hbl hbA hS (by rw [hL7]; unfold vp_in; decide) dL_law_381 ?_
    refine lv_topi (fun a_8 ea_8 => ?_)
    obtain rfl : a_2 = a_8 := ea_2.trans ea_8.symm
    refine lv_aload_n hx hb dL_law_382 rfl (lv_at hl 6 rfl) ?_
    refine lv_iload hx hb dL_law_383 (lv_at hl 1 rfl) ?_
    refine lv_iconst (v := 2) hx hb dL_law_385 (by decide) ?_
    refine lv_iadd hx hb dL_law_386 ?_
    refine lv_topi (fun x_9 ex_9 => ?_)
    obtain rfl : x_9 = 2 := ex_9.trans (by first | rfl | decide | simp)
    refine va_sld (i := 2) hx hb hXs hbl hbA hS (by rw [hL7]; unfold vp_in; decide) dL_law_387 ?_
    refine lv_topi (fun a_10 ea_10 => ?_)
    obtain rfl : a_4 = a_10 := ea_4.trans ea_10.symm
    obtain ⟨hb_11, hc_11⟩ := z_call (wc := [(m0, .inr (10, [.int 0, .ref qu, .ref qs, .ref qc, .ref qp, .int 0, .int (-1), .int 0, .null])), (qu, .inr (1, [.int 0, .ref (D.2 50 0), .int 0]))]) (tc := []) ([.ref m0, .int a_2, .int a_4]) hP hK hD hS hA hE hX [8, 9] rfl rfl [] rfl
    have hF_11 := va_free (wc := [(m0, .inr (10, [.int 0, .ref qu, .ref qs, .ref qc, .ref qp, .int 0, .int (-1), .int 0, .null])), (qu, .inr (1, [.int 0, .ref (D.2 50 0), .int 0]))]) hD hS hA [8, 9] rfl
    refine va_calli (va_runV (As := [.int a_2, .int a_4]) (rest := []) ⟨hx, hb, hml, hown, hts⟩ (f_X8_plan l D m0 qu qs qc qp 0 (D.2 50 0) a_2 a_4 _ ) (z_cV 2 hE zw_1247 zw_1248 zw_1249 zw_96 zw_1250 rfl rfl rfl (by decide +kernel) ⟨(Nat.le_of_ble_eq_true rfl), (Nat.le_of_ble_eq_true rfl)⟩) ⟨hb_11, va_recv hK hP (ci := 10) (q0 := 8) rfl rfl, hc_11⟩ rfl rfl hl.1 rfl (lv_room (Nat.le_of_ble_eq_true rfl)) dL_law_388 ⟨(Nat.le_of_ble_eq_true rfl), (Nat.le_of_ble_eq_true rfl)⟩) hS (fun q _ h => hF_11 q h) hF_11 (fun r_11 u_11 t_11 H1 locs ht_11 hvm_11 hw_11 hB_11 hz_11 hk_11 hS1 => ?_)
    obtain ⟨hP, hK, hD⟩ := z_back (wc := [(m0, .inr (10, [.int 0, .ref qu, .ref qs, .ref qc, .ref qp, .int 0, .int (-1), .int 0, .null])), (qu, .inr (1, [.int 0, .ref (D.2 50 0), .int 0]))]) (wr := [(hu, .inl (cU, 10, .inr (.inr (.inr (.inr fu))))), (u0, .inr (5, [.ref ul, .int 0, .int 0, .int 45, .int 0, .int 0, .int (-1)])), (hc, .inl (cC, 4, .inr (.inr (.inr (.inr fc))))), (w0, .inr (2, [.int 100, .int (-1)])), (hp, .inl (cP, 7, .inl fp)), (hg, .inr (3, [.ref go, .ref gs, .ref ge, .ref gb, .int 0, .int 0, .int 0, .int 0])), (gs, .inl (cS, 10, .inl (fun _ => 0))), (gb, .inl (cB, 10, .inl (fun _ => 0))), (qs, .inr (1, [.int 0, .ref (D.2 50 0), .int 0])), (qc, .inr (1, [.int 0, .ref (D.2 50 0), .int 0])), (qp, .inl (cM, 7, .inl fm)), (qd, .inl (cD, 1, .inr (.inr (.inr (.inl (fun _ => 0)))))), (h0, .inr (6, [.ref hu, .ref hs, .ref hc, .ref hp, .ref hg, .int 0, .int 0, .int 0, .int 0, .int 0])), (qo, .inl (cJ, 1, .inr (.inl (fun _ => 0))))]) (w1 := [(m0, .inr (10, [.int 1, .ref qu, .ref qs, .ref qc, .ref qp, .int 0, .int (-1), .int 0, .null])), (qu, .inr (1, [.int 0, .ref (D.2 50 0), .int 0]))]) (tr := [(cU, .object RX3), (cC, .object RX0), (cP, .int), (cS, .int), (cB, .int), (cM, .int), (cD, .double), (cJ, .long)]) hP hK hD [8, 9] [0, 1, 2, 3, 4, 5, 6, 7, 10, 11, 12, 13, 14, 15] rfl rfl rfl (by decide) ht_11 hvm_11 hk_11 hF_11 [0, 1, 2, 3, 4, 5, 6, 7] rfl hB_11
    have hS := hS1
    have hP : va_P D vwCl [(hu, .inl (cU, 10, .inr (.inr (.inr (.inr fu))))), (u0, .inr (5, [.ref ul, .int 0, .int 0, .int 45, .int 0, .int 0, .int (-1)])), (hc, .inl (cC, 4, .inr (.inr (.inr (.inr fc))))), (w0, .inr (2, [.int 100, .int (-1)])), (hp, .inl (cP, 7, .inl fp)), (hg, .inr (3, [.ref go, .ref gs, .ref ge, .ref gb, .int 0, .int 0, .int 0, .int 0])), (gs, .inl (cS, 10, .inl (fun _ => 0))), (gb, .inl (cB, 10, .inl (fun _ => 0))), (qs, .inr (1, [.int 0, .ref (D.2 50 0), .int 0])), (qc, .inr (1, [.int 0, .ref (D.2 50 0), .int 0])), (qp, .inl (cM, 7, .inl fm)), (qd, .inl (cD, 1, .inr (.inr (.inr (.inl (fun _ => 0)))))), (h0, .inr (6, [.ref hu, .ref hs, .ref hc, .ref hp, .ref hg, .int 0, .int 0, .int 0, .int 0, .int 0])), (qo, .inl (cJ, 1, .inr (.inl (fun _ => 0)))), (m0, .inr (10, [.int 1, .ref qu, .ref qs, .ref qc, .ref qp, .int 0, .int (-1), .int 0, .null])), (qu, .inr (1, [.int 0, .ref (D.2 50 0), .int 0]))] H1 := hP
    have hD : va_D A [(hu, .inl (cU, 10, .inr (.inr (.inr (.inr fu))))), (u0, .inr (5, [.ref ul, .int 0, .int 0, .int 45, .int 0, .int 0, .int (-1)])), (hc, .inl (cC, 4, .inr (.inr (.inr (.inr fc))))), (w0, .inr (2, [.int 100, .int (-1)])), (hp, .inl (cP, 7, .inl fp)), (hg, .inr (3, [.ref go, .ref gs, .ref ge, .ref gb, .int 0, .int 0, .int 0, .int 0])), (gs, .inl (cS, 10, .inl (fun _ => 0))), (gb, .inl (cB, 10, .inl (fun _ => 0))), (qs, .inr (1, [.int 0, .ref (D.2 50 0), .int 0])), (qc, .inr (1, [.int 0, .ref (D.2 50 0), .int 0])), (qp, .inl (cM, 7, .inl fm)), (qd, .inl (cD, 1, .inr (.inr (.inr (.inl (fun _ => 0)))))), (h0, .inr (6, [.ref hu, .ref hs, .ref hc, .ref hp, .ref hg, .int 0, .int 0, .int 0, .int 0, .int 0])), (qo, .inl (cJ, 1, .inr (.inl (fun _ => 0)))), (m0, .inr (10, [.int 1, .ref qu, .ref qs, .ref qc, .ref qp, .int 0, .int (-1), .int 0, .null])), (qu, .inr (1, [.int 0, .ref (D.2 50 0), .int 0]))] := hD
    have hK : va_K D vwCl [(cU, .object RX3), (cC, .object RX0), (cP, .int), (cS, .int), (cB, .int), (cM, .int), (cD, .double), (cJ, .long)] s := hK
    clear hS1
    refine lv_istore (lv' := [(7, .int r_11), (6, .int 1), (5, .int 0), (4, .ref qd), (3, .ref qo), (2, .ref m0), (1, .ref h0), (0, .ref b)]) hx hb dL_law_391 hl (by decide) rfl (fun ls hl => ?_)
    refine lv_aload_n hx hb dL_law_393 rfl (lv_at hl 5 rfl) ?_
    obtain ⟨hb_12, hc_12⟩ := z_call (wc := [(m0, .inr (10, [.int 1, .ref qu, .ref qs, .ref qc, .ref qp, .int 0, .int (-1), .int 0, .null]))]) (tc := []) ([.ref m0]) hP hK hD hS hA hE hX [14] rfl rfl [] rfl
    have hF_12 := va_free (wc := [(m0, .inr (10, [.int 1, .ref qu, .ref qs, .ref qc, .ref qp, .int 0, .int (-1), .int 0, .null]))]) hD hS hA [14] rfl
    refine va_calli (va_runV (As := []) (rest := []) ⟨hx, hb, hml, hown, hts⟩ (c_X8_thrown l D m0 qu qs qc qp 1 0 (-1) 0 .null _ ) (z_cV 0 hE zw_1108 zw_1109 zw_1110 zw_96 zw_1111 rfl rfl rfl (by decide +kernel) ⟨(Nat.le_of_ble_eq_true rfl), (Nat.le_of_ble_eq_true rfl)⟩) ⟨hb_12, va_recv hK hP (ci := 10) (q0 := 14) rfl rfl, hc_12⟩ rfl rfl hl.1 rfl (lv_room (Nat.le_of_ble_eq_true rfl)) dL_law_394 ⟨(Nat.le_of_ble_eq_true rfl), (Nat.le_of_ble_eq_true rfl)⟩) hS (fun q _ h => hF_12 q h) hF_12 (fun r_12 u_12 t_12 H1 locs ht_12 hvm_12 hw_12 hB_12 hz_12 hk_12 hS1 => ?_)
    obtain ⟨hP, hK, hD⟩ := z_back (wc := [(m0, .inr (10, [.int 1, .ref qu, .ref qs, .ref qc, .ref qp, .int 0, .int (-1), .int 0, .null]))]) (wr := [(hu, .inl (cU, 10, .inr (.inr (.inr (.inr fu))))), (u0, .inr (5, [.ref ul, .int 0, .int 0, .int 45, .int 0, .int 0, .int (-1)])), (hc, .inl (cC, 4, .inr (.inr (.inr (.inr fc))))), (w0, .inr (2, [.int 100, .int (-1)])), (hp, .inl (cP, 7, .inl fp)), (hg, .inr (3, [.ref go, .ref gs, .ref ge, .ref gb, .int 0, .int 0, .int 0, .int 0])), (gs, .inl (cS, 10, .inl (fun _ => 0))), (gb, .inl (cB, 10, .inl (fun _ => 0))), (qs, .inr (1, [.int 0, .ref (D.2 50 0), .int 0])), (qc, .inr (1, [.int 0, .ref (D.2 50 0), .int 0])), (qp, .inl (cM, 7, .inl fm)), (qd, .inl (cD, 1, .inr (.inr (.inr (.inl (fun _ => 0)))))), (h0, .inr (6, [.ref hu, .ref hs, .ref hc, .ref hp, .ref hg, .int 0, .int 0, .int 0, .int 0, .int 0])), (qo, .inl (cJ, 1, .inr (.inl (fun _ => 0)))), (qu, .inr (1, [.int 0, .ref (D.2 50 0), .int 0]))]) (w1 := [(m0, .inr (10, [.int 1, .ref qu, .ref qs, .ref qc, .ref qp, .int 0, .int (-1), .int 0, .null]))]) (tr := [(cU, .object RX3), (cC, .object RX0), (cP, .int), (cS, .int), (cB, .int), (cM, .int), (cD, .double), (cJ, .long)]) hP hK hD [14] [0, 1, 2, 3, 4, 5, 6, 7, 8, 9, 10, 11, 12, 13, 15] rfl rfl rfl (by decide) ht_12 hvm_12 hk_12 hF_12 [0, 1, 2, 3, 4, 5, 6, 7] rfl hB_12
    have hS := hS1
    have hP : va_P D vwCl [(hu, .inl (cU, 10, .inr (.inr (.inr (.inr fu))))), (u0, .inr (5, [.ref ul, .int 0, .int 0, .int 45, .int 0, .int 0, .int (-1)])), (hc, .inl (cC, 4, .inr (.inr (.inr (.inr fc))))), (w0, .inr (2, [.int 100, .int (-1)])), (hp, .inl (cP, 7, .inl fp)), (hg, .inr (3, [.ref go, .ref gs, .ref ge, .ref gb, .int 0, .int 0, .int 0, .int 0])), (gs, .inl (cS, 10, .inl (fun _ => 0))), (gb, .inl (cB, 10, .inl (fun _ => 0))), (qs, .inr (1, [.int 0, .ref (D.2 50 0), .int 0])), (qc, .inr (1, [.int 0, .ref (D.2 50 0), .int 0])), (qp, .inl (cM, 7, .inl fm)), (qd, .inl (cD, 1, .inr (.inr (.inr (.inl (fun _ => 0)))))), (h0, .inr (6, [.ref hu, .ref hs, .ref hc, .ref hp, .ref hg, .int 0, .int 0, .int 0, .int 0, .int 0])), (qo, .inl (cJ, 1, .inr (.inl (fun _ => 0)))), (qu, .inr (1, [.int 0, .ref (D.2 50 0), .int 0])), (m0, .inr (10, [.int 1, .ref qu, .ref qs, .ref qc, .ref qp, .int 0, .int (-1), .int 0, .null]))] H1 := hP
    have hD : va_D A [(hu, .inl (cU, 10, .inr (.inr (.inr (.inr fu))))), (u0, .inr (5, [.ref ul, .int 0, .int 0, .int 45, .int 0, .int 0, .int (-1)])), (hc, .inl (cC, 4, .inr (.inr (.inr (.inr fc))))), (w0, .inr (2, [.int 100, .int (-1)])), (hp, .inl (cP, 7, .inl fp)), (hg, .inr (3, [.ref go, .ref gs, .ref ge, .ref gb, .int 0, .int 0, .int 0, .int 0])), (gs, .inl (cS, 10, .inl (fun _ => 0))), (gb, .inl (cB, 10, .inl (fun _ => 0))), (qs, .inr (1, [.int 0, .ref (D.2 50 0), .int 0])), (qc, .inr (1, [.int 0, .ref (D.2 50 0), .int 0])), (qp, .inl (cM, 7, .inl fm)), (qd, .inl (cD, 1, .inr (.inr (.inr (.inl (fun _ => 0)))))), (h0, .inr (6, [.ref hu, .ref hs, .ref hc, .ref hp, .ref hg, .int 0, .int 0, .int 0, .int 0, .int 0])), (qo, .inl (cJ, 1, .inr (.inl (fun _ => 0)))), (qu, .inr (1, [.int 0, .ref (D.2 50 0), .int 0])), (m0, .inr (10, [.int 1, .ref qu, .ref qs, .ref qc, .ref qp, .int 0, .int (-1), .int 0, .null]))] := hD
    have hK : va_K D vwCl [(cU, .object RX3), (cC, .object RX0), (cP, .int), (cS, .int), (cB, .int), (cM, .int), (cD, .double), (cJ, .long)] s := hK
    clear hS1
    obtain rfl : r_12 = 1 := hw_12
    refine lv_iload hx hb dL_law_397 (lv_at hl 1 rfl) ?_
    refine lv_icmp_eq (tgt := 404) hx hb dL_law_399 (by decide) (fun c_13 => ?_) (fun c_13 => absurd (by decide) c_13)
    refine lv_iload hx hb dL_law_404 (lv_at hl 1 rfl) ?_
    refine lv_if_ne (tgt := 421) hx hb dL_law_406 (by decide) (fun c_14 => ?_) (fun c_14 => absurd c_14 (by decide))
    refine lv_goto (tgt := 2663) hx hb dL_law_421 (by decide) ?_
    exact law_end C0 hL7 hAF hbA hS (lv_sub (l' := [(5, .int 0), (0, .ref b)]) hl [2, 7] rfl) (Nat.le_of_ble_eq_true rfl) (Nat.le_of_ble_eq_true rfl)
theorem dL_law_424 : decode cL_law 424 = .ok (.aload_n 1, 1) := by decide +kernel
theorem dL_law_425 : decode cL_law 425 = .ok (.aload_n 0, 1) := by decide +kernel
theorem dL_law_426 : decode cL_law 426 = .ok (.iload 5, 2) := by decide +kernel
theorem dL_law_428 : decode cL_law 428 = .ok (.iconst 1, 1) := by decide +kernel
theorem dL_law_429 : decode cL_law 429 = .ok (.iadd, 1) := by decide +kernel
theorem dL_law_430 : decode cL_law 430 = .ok (.iaload, 1) := by decide +kernel
theorem dL_law_431 : decode cL_law 431 = .ok (.aload_n 0, 1) := by decide +kernel
theorem dL_law_432 : decode cL_law 432 = .ok (.iload 5, 2) := by decide +kernel
theorem dL_law_434 : decode cL_law 434 = .ok (.iconst 2, 1) := by decide +kernel
theorem dL_law_435 : decode cL_law 435 = .ok (.iadd, 1) := by decide +kernel
theorem dL_law_436 : decode cL_law 436 = .ok (.iaload, 1) := by decide +kernel
theorem dL_law_437 : decode cL_law 437 = .ok (.aload_n 3, 1) := by decide +kernel
theorem dL_law_438 : decode cL_law 438 = .ok (.invokestatic 166, 3) := by decide +kernel
theorem zw_563 : Cond.methodLink RL 166 yL_rest ∈ z_Ts := z_m 563 (by decide +kernel) (by decide +kernel)
theorem zw_564 : Cond.static yL_rest ∈ z_Ts := z_m 564 (by decide +kernel) (by decide +kernel)
theorem zw_565 : Cond.codeWith yL_rest cL_rest 5 (some .int) [(0, 17, 20, 23), (0, 17, 24, 15), (0, 17, 28, 13)] ∈ z_Ts := z_m 565 (by decide +kernel) (by decide +kernel)
theorem dL_law_441 : decode cL_law 441 = .ok (.istore 6, 2) := by decide +kernel
theorem dL_law_443 : decode cL_law 443 = .ok (.aload_n 2, 1) := by decide +kernel
theorem dL_law_444 : decode cL_law 444 = .ok (.aload_n 0, 1) := by decide +kernel
theorem dL_law_445 : decode cL_law 445 = .ok (.iload 5, 2) := by decide +kernel
theorem dL_law_447 : decode cL_law 447 = .ok (.iconst 1, 1) := by decide +kernel
theorem dL_law_448 : decode cL_law 448 = .ok (.iadd, 1) := by decide +kernel
theorem dL_law_449 : decode cL_law 449 = .ok (.iaload, 1) := by decide +kernel
theorem dL_law_450 : decode cL_law 450 = .ok (.aload_n 0, 1) := by decide +kernel
theorem dL_law_451 : decode cL_law 451 = .ok (.iload 5, 2) := by decide +kernel
theorem dL_law_453 : decode cL_law 453 = .ok (.iconst 2, 1) := by decide +kernel
theorem dL_law_454 : decode cL_law 454 = .ok (.iadd, 1) := by decide +kernel
theorem dL_law_455 : decode cL_law 455 = .ok (.iaload, 1) := by decide +kernel
theorem dL_law_456 : decode cL_law 456 = .ok (.invokevirtual 168, 3) := by decide +kernel
theorem zw_1313 : Cond.methodLink RL 168 yX8_rest ∈ z_Ts := z_m 1313 (by decide +kernel) (by decide +kernel)
theorem zw_1314 : Cond.instanceMethod yX8_rest ∈ z_Ts := z_m 1314 (by decide +kernel) (by decide +kernel)
theorem zw_1315 : Cond.selects RX8 yX8_rest yX8_rest ∈ z_Ts := z_m 1315 (by decide +kernel) (by decide +kernel)
theorem zw_1316 : Cond.code yX8_rest cX8_rest 5 (some .boolean) ∈ z_Ts := z_m 1316 (by decide +kernel) (by decide +kernel)
theorem dL_law_459 : decode cL_law 459 = .ok (.istore 7, 2) := by decide +kernel
theorem dL_law_461 : decode cL_law 461 = .ok (.aload_n 2, 1) := by decide +kernel
theorem dL_law_462 : decode cL_law 462 = .ok (.invokevirtual 156, 3) := by decide +kernel
theorem dL_law_465 : decode cL_law 465 = .ok (.iload 6, 2) := by decide +kernel
theorem dL_law_467 : decode cL_law 467 = .ok (.if_icmp .eq 5, 3) := by decide +kernel
theorem dL_law_472 : decode cL_law 472 = .ok (.iload 6, 2) := by decide +kernel
theorem dL_law_474 : decode cL_law 474 = .ok (.ifCond .ne 22, 3) := by decide +kernel
theorem dL_law_496 : decode cL_law 496 = .ok (.goto 2167, 3) := by decide +kernel
set_option maxHeartbeats 4000000 in
set_option maxRecDepth 100000 in
theorem law_3 {p : Program} {l : Launch} {e : Env} {s : State} {m : MethodId} {below : List Frame} {meth : Method} {c : Code} {b L : Nat} {xs : Nat → Int32} {D : va_G} {A : Nat → Prop} (C0 : lw_At p s m meth c b L xs) (hL7 : L = 7) (hst : l.stackTraces = false) (hE : z_E s) (hX : z_X D A s s.heap) (hA : ∀ q, s.heap.size ≤ q → A q) (hbA : ¬ A b) (hAF : ∀ q, A q → s.heap.size ≤ q) {h0 hu hs hc hp hg u0 ul w0 go gs ge gb m0 qu qs qc qp qo qd : Nat} {cU cC cP cS cB cM cJ cD : ClassId} {fu fc : Nat → Option Nat} {fp fm : Nat → Int32} (hfu : fu 0 = some u0) (hfc : fc 0 = some w0) (hfp : ∀ j : Nat, j < 7 → fp j = 100) (hfm : ∀ j : Nat, j < 7 → fm j = 100) {H : Heap} {locs : List Loc} (hK : va_K D vwCl [(cU, .object RX3), (cC, .object RX0), (cP, .int), (cS, .int), (cB, .int), (cM, .int), (cJ, .long), (cD, .double)] s) (hP : va_P D vwCl [(h0, .inr (6, [.ref hu, .ref hs, .ref hc, .ref hp, .ref hg, .int 0, .int 0, .int 0, .int 0, .int 0])), (hu, .inl (cU, 10, .inr (.inr (.inr (.inr fu))))), (u0, .inr (5, [.ref ul, .int 0, .int 0, .int 45, .int 0, .int 0, .int (-1)])), (hc, .inl (cC, 4, .inr (.inr (.inr (.inr fc))))), (w0, .inr (2, [.int 100, .int (-1)])), (hp, .inl (cP, 7, .inl fp)), (hg, .inr (3, [.ref go, .ref gs, .ref ge, .ref gb, .int 0, .int 0, .int 0, .int 0])), (gs, .inl (cS, 10, .inl (fun _ => 0))), (gb, .inl (cB, 10, .inl (fun _ => 0))), (m0, .inr (10, [.int 0, .ref qu, .ref qs, .ref qc, .ref qp, .int 0, .int (-1), .int 0, .null])), (qu, .inr (1, [.int 0, .ref (D.2 50 0), .int 0])), (qs, .inr (1, [.int 0, .ref (D.2 50 0), .int 0])), (qc, .inr (1, [.int 0, .ref (D.2 50 0), .int 0])), (qp, .inl (cM, 7, .inl fm)), (qo, .inl (cJ, 1, .inr (.inl (fun _ => 0)))), (qd, .inl (cD, 1, .inr (.inr (.inr (.inl (fun _ => 0))))))] H) (hD : va_D A [(h0, .inr (6, [.ref hu, .ref hs, .ref hc, .ref hp, .ref hg, .int 0, .int 0, .int 0, .int 0, .int 0])), (hu, .inl (cU, 10, .inr (.inr (.inr (.inr fu))))), (u0, .inr (5, [.ref ul, .int 0, .int 0, .int 45, .int 0, .int 0, .int (-1)])), (hc, .inl (cC, 4, .inr (.inr (.inr (.inr fc))))), (w0, .inr (2, [.int 100, .int (-1)])), (hp, .inl (cP, 7, .inl fp)), (hg, .inr (3, [.ref go, .ref gs, .ref ge, .ref gb, .int 0, .int 0, .int 0, .int 0])), (gs, .inl (cS, 10, .inl (fun _ => 0))), (gb, .inl (cB, 10, .inl (fun _ => 0))), (m0, .inr (10, [.int 0, .ref qu, .ref qs, .ref qc, .ref qp, .int 0, .int (-1), .int 0, .null])), (qu, .inr (1, [.int 0, .ref (D.2 50 0), .int 0])), (qs, .inr (1, [.int 0, .ref (D.2 50 0), .int 0])), (qc, .inr (1, [.int 0, .ref (D.2 50 0), .int 0])), (qp, .inl (cM, 7, .inl fm)), (qo, .inl (cJ, 1, .inr (.inl (fun _ => 0)))), (qd, .inl (cD, 1, .inr (.inr (.inr (.inl (fun _ => 0))))))]) (hS : va_S A s.heap H locs) {ls : Array Slot} (hl : lv_has ls 9 [(5, .int 0), (4, .ref qd), (3, .ref qo), (2, .ref m0), (1, .ref h0), (0, .ref b)]) : W p l e room_1 s m #[Value.ref b] below meth c H locs 62 437 (lw_Z below #[Value.ref b] s) (F0 m 424 ls []) := by
  obtain ⟨hx, hb, hr, hml, hown, hts0, hXs, hbl, hlocks, hgv⟩ := id C0
  have hts := z_E.ts (args := #[Value.ref b]) hE
  have hown : s.vm.findClass RL = some m.cls := hown
  refine lv_aload_n hx hb dL_law_424 rfl (lv_at hl 4 rfl) ?_
  refine lv_aload_n hx hb dL_law_425 rfl (lv_at hl 5 rfl) ?_
  refine lv_iload hx hb dL_law_426 (lv_at hl 0 rfl) ?_
  refine lv_iconst (v := 1) hx hb dL_law_428 (by decide) ?_
  refine lv_iadd hx hb dL_law_429 ?_
  refine lv_topi (fun x_1 ex_1 => ?_)
  obtain rfl : x_1 = 1 := ex_1.trans (by first | rfl | decide | simp)
  refine va_sld (i := 1) hx hb hXs hbl hbA hS (by rw [hL7]; unfold vp_in; decide) dL_law_430 ?_
  refine lv_topi (fun a_2 ea_2 => ?_)
  refine lv_aload_n hx hb dL_law_431 rfl (lv_at hl 5 rfl) ?_
  refine lv_iload hx hb dL_law_432 (lv_at hl 0 rfl) ?_
  refine lv_iconst (v := 2) hx hb dL_law_434 (by decide) ?_
  refine lv_iadd hx hb dL_law_435 ?_
  refine lv_topi (fun x_3 ex_3 => ?_)
  obtain rfl : x_3 = 2 := ex_3.trans (by first | rfl | decide | simp)
  refine va_sld (i := 2) hx hb hXs hbl hbA hS (by rw [hL7]; unfold vp_in; decide) dL_law_436 ?_
  refine lv_topi (fun a_4 ea_4 => ?_)
  refine lv_aload_n hx hb dL_law_437 rfl (lv_at hl 2 rfl) ?_
  obtain ⟨hb_6, hc_6⟩ := z_call (wc := [(h0, .inr (6, [.ref hu, .ref hs, .ref hc, .ref hp, .ref hg, .int 0, .int 0, .int 0, .int 0, .int 0])), (qo, .inl (cJ, 1, .inr (.inl (fun _ => 0))))]) (tc := [(cJ, .long)]) ([.ref h0, .int a_2, .int a_4, .ref qo]) hP hK hD hS hA hE hX [0, 14] rfl rfl [6] rfl
  have hF_6 := va_free (wc := [(h0, .inr (6, [.ref hu, .ref hs, .ref hc, .ref hp, .ref hg, .int 0, .int 0, .int 0, .int 0, .int 0])), (qo, .inl (cJ, 1, .inr (.inl (fun _ => 0))))]) hD hS hA [0, 14] rfl
  refine vx_calli (vx_runSX (As := [.ref h0, .int a_2, .int a_4, .ref qo]) (rest := []) ⟨hx, hb, hml, hown, hts⟩ (f_L_rest l hst D h0 hu hs hc hp hg 0 0 a_2 a_4 qo (fun _ => 0) cJ _ ) (z_cSW 4 hE zw_563 zw_564 zw_90 zw_565 rfl rfl rfl (by decide +kernel) ⟨(Nat.le_of_ble_eq_true rfl), (Nat.le_of_ble_eq_true rfl)⟩) ⟨hb_6, hc_6⟩ rfl rfl hl.1 rfl (lv_room (Nat.le_of_ble_eq_true rfl)) dL_law_438 ⟨(Nat.le_of_ble_eq_true rfl), (Nat.le_of_ble_eq_true rfl)⟩) hS (fun q _ h => hF_6 q h) hF_6 (fun q _ h => hF_6 q h) (fun E_6 ce_6 q9_6 u_6 t_6 H1 locs ht_6 hvm_6 hw_6 hB_6 hz_6 hk_6 hS1 hce_6 hcv_6 hcl_6 => ?_) (fun r_6 u_6 t_6 H1 locs ht_6 hvm_6 hw_6 hB_6 hz_6 hk_6 hS1 => ?_)
  · exact hw_6.elim
  · obtain ⟨hP, hK, hD⟩ := z_back (wc := [(h0, .inr (6, [.ref hu, .ref hs, .ref hc, .ref hp, .ref hg, .int 0, .int 0, .int 0, .int 0, .int 0])), (qo, .inl (cJ, 1, .inr (.inl (fun _ => 0))))]) (wr := [(hu, .inl (cU, 10, .inr (.inr (.inr (.inr fu))))), (u0, .inr (5, [.ref ul, .int 0, .int 0, .int 45, .int 0, .int 0, .int (-1)])), (hc, .inl (cC, 4, .inr (.inr (.inr (.inr fc))))), (w0, .inr (2, [.int 100, .int (-1)])), (hp, .inl (cP, 7, .inl fp)), (hg, .inr (3, [.ref go, .ref gs, .ref ge, .ref gb, .int 0, .int 0, .int 0, .int 0])), (gs, .inl (cS, 10, .inl (fun _ => 0))), (gb, .inl (cB, 10, .inl (fun _ => 0))), (m0, .inr (10, [.int 0, .ref qu, .ref qs, .ref qc, .ref qp, .int 0, .int (-1), .int 0, .null])), (qu, .inr (1, [.int 0, .ref (D.2 50 0), .int 0])), (qs, .inr (1, [.int 0, .ref (D.2 50 0), .int 0])), (qc, .inr (1, [.int 0, .ref (D.2 50 0), .int 0])), (qp, .inl (cM, 7, .inl fm)), (qd, .inl (cD, 1, .inr (.inr (.inr (.inl (fun _ => 0))))))]) (w1 := [(h0, .inr (6, [.ref hu, .ref hs, .ref hc, .ref hp, .ref hg, .int 0, .int 0, .int 0, .int 0, .int 0])), (qo, .inl (cJ, 1, .inr (.inl (fun _ => 0))))]) (tr := [(cU, .object RX3), (cC, .object RX0), (cP, .int), (cS, .int), (cB, .int), (cM, .int), (cD, .double)]) hP hK hD [0, 14] [1, 2, 3, 4, 5, 6, 7, 8, 9, 10, 11, 12, 13, 15] rfl rfl rfl (by decide) ht_6 hvm_6 hk_6 hF_6 [0, 1, 2, 3, 4, 5, 7] rfl hB_6
    have hS := hS1
    have hP : va_P D vwCl [(hu, .inl (cU, 10, .inr (.inr (.inr (.inr fu))))), (u0, .inr (5, [.ref ul, .int 0, .int 0, .int 45, .int 0, .int 0, .int (-1)])), (hc, .inl (cC, 4, .inr (.inr (.inr (.inr fc))))), (w0, .inr (2, [.int 100, .int (-1)])), (hp, .inl (cP, 7, .inl fp)), (hg, .inr (3, [.ref go, .ref gs, .ref ge, .ref gb, .int 0, .int 0, .int 0, .int 0])), (gs, .inl (cS, 10, .inl (fun _ => 0))), (gb, .inl (cB, 10, .inl (fun _ => 0))), (m0, .inr (10, [.int 0, .ref qu, .ref qs, .ref qc, .ref qp, .int 0, .int (-1), .int 0, .null])), (qu, .inr (1, [.int 0, .ref (D.2 50 0), .int 0])), (qs, .inr (1, [.int 0, .ref (D.2 50 0), .int 0])), (qc, .inr (1, [.int 0, .ref (D.2 50 0), .int 0])), (qp, .inl (cM, 7, .inl fm)), (qd, .inl (cD, 1, .inr (.inr (.inr (.inl (fun _ => 0)))))), (h0, .inr (6, [.ref hu, .ref hs, .ref hc, .ref hp, .ref hg, .int 0, .int 0, .int 0, .int 0, .int 0])), (qo, .inl (cJ, 1, .inr (.inl (fun _ => 0))))] H1 := hP
    have hD : va_D A [(hu, .inl (cU, 10, .inr (.inr (.inr (.inr fu))))), (u0, .inr (5, [.ref ul, .int 0, .int 0, .int 45, .int 0, .int 0, .int (-1)])), (hc, .inl (cC, 4, .inr (.inr (.inr (.inr fc))))), (w0, .inr (2, [.int 100, .int (-1)])), (hp, .inl (cP, 7, .inl fp)), (hg, .inr (3, [.ref go, .ref gs, .ref ge, .ref gb, .int 0, .int 0, .int 0, .int 0])), (gs, .inl (cS, 10, .inl (fun _ => 0))), (gb, .inl (cB, 10, .inl (fun _ => 0))), (m0, .inr (10, [.int 0, .ref qu, .ref qs, .ref qc, .ref qp, .int 0, .int (-1), .int 0, .null])), (qu, .inr (1, [.int 0, .ref (D.2 50 0), .int 0])), (qs, .inr (1, [.int 0, .ref (D.2 50 0), .int 0])), (qc, .inr (1, [.int 0, .ref (D.2 50 0), .int 0])), (qp, .inl (cM, 7, .inl fm)), (qd, .inl (cD, 1, .inr (.inr (.inr (.inl (fun _ => 0)))))), (h0, .inr (6, [.ref hu, .ref hs, .ref hc, .ref hp, .ref hg, .int 0, .int 0, .int 0, .int 0, .int 0])), (qo, .inl (cJ, 1, .inr (.inl (fun _ => 0))))] := hD
    have hK : va_K D vwCl [(cU, .object RX3), (cC, .object RX0), (cP, .int), (cS, .int), (cB, .int), (cM, .int), (cD, .double), (cJ, .long)] s := hK
    clear hS1
    obtain rfl : r_6 = 1 := hw_6
    refine lv_istore (lv' := [(6, .int 1), (5, .int 0), (4, .ref qd), (3, .ref qo), (2, .ref m0), (1, .ref h0), (0, .ref b)]) hx hb dL_law_441 hl (by decide) rfl (fun ls hl => ?_)
    refine lv_aload_n hx hb dL_law_443 rfl (lv_at hl 4 rfl) ?_
    refine lv_aload_n hx hb dL_law_444 rfl (lv_at hl 6 rfl) ?_
    refine lv_iload hx hb dL_law_445 (lv_at hl 1 rfl) ?_
    refine lv_iconst (v := 1) hx hb dL_law_447 (by decide) ?_
    refine lv_iadd hx hb dL_law_448 ?_
    refine lv_topi (fun x_7 ex_7 => ?_)
    obtain rfl : x_7 = 1 := ex_7.trans (by first | rfl | decide | simp)
    refine va_sld (i := 1) hx hb hXs hbl hbA hS (by rw [hL7]; unfold vp_in; decide) dL_law_449 ?_
    refine lv_topi (fun a_8 ea_8 => ?_)
    obtain rfl : a_2 = a_8 := ea_2.trans ea_8.symm
    refine lv_aload_n hx hb dL_law_450 rfl (lv_at hl 6 rfl) ?_
    refine lv_iload hx hb dL_law_451 (lv_at hl 1 rfl) ?_
    refine lv_iconst (v := 2) hx hb dL_law_453 (by decide) ?_
    refine lv_iadd hx hb dL_law_454 ?_
    refine lv_topi (fun x_9 ex_9 => ?_)
    obtain rfl : x_9 = 2 := ex_9.trans (by first | rfl | decide | simp)
    refine va_sld (i := 2) hx hb hXs hbl hbA hS (by rw [hL7]; unfold vp_in; decide) dL_law_455 ?_
    refine lv_topi (fun a_10 ea_10 => ?_)
    obtain rfl : a_4 = a_10 := ea_4.trans ea_10.symm
    obtain ⟨hb_11, hc_11⟩ := z_call (wc := [(m0, .inr (10, [.int 0, .ref qu, .ref qs, .ref qc, .ref qp, .int 0, .int (-1), .int 0, .null])), (qu, .inr (1, [.int 0, .ref (D.2 50 0), .int 0]))]) (tc := []) ([.ref m0, .int a_2, .int a_4]) hP hK hD hS hA hE hX [8, 9] rfl rfl [] rfl
    have hF_11 := va_free (wc := [(m0, .inr (10, [.int 0, .ref qu, .ref qs, .ref qc, .ref qp, .int 0, .int (-1), .int 0, .null])), (qu, .inr (1, [.int 0, .ref (D.2 50 0), .int 0]))]) hD hS hA [8, 9] rfl
    refine va_calli (va_runV (As := [.int a_2, .int a_4]) (rest := []) ⟨hx, hb, hml, hown, hts⟩ (f_X8_rest l D m0 qu qs qc qp 0 (D.2 50 0) a_2 a_4 _ ) (z_cV 2 hE zw_1313 zw_1314 zw_1315 zw_96 zw_1316 rfl rfl rfl (by decide +kernel) ⟨(Nat.le_of_ble_eq_true rfl), (Nat.le_of_ble_eq_true rfl)⟩) ⟨hb_11, va_recv hK hP (ci := 10) (q0 := 8) rfl rfl, hc_11⟩ rfl rfl hl.1 rfl (lv_room (Nat.le_of_ble_eq_true rfl)) dL_law_456 ⟨(Nat.le_of_ble_eq_true rfl), (Nat.le_of_ble_eq_true rfl)⟩) hS (fun q _ h => hF_11 q h) hF_11 (fun r_11 u_11 t_11 H1 locs ht_11 hvm_11 hw_11 hB_11 hz_11 hk_11 hS1 => ?_)
    obtain ⟨hP, hK, hD⟩ := z_back (wc := [(m0, .inr (10, [.int 0, .ref qu, .ref qs, .ref qc, .ref qp, .int 0, .int (-1), .int 0, .null])), (qu, .inr (1, [.int 0, .ref (D.2 50 0), .int 0]))]) (wr := [(hu, .inl (cU, 10, .inr (.inr (.inr (.inr fu))))), (u0, .inr (5, [.ref ul, .int 0, .int 0, .int 45, .int 0, .int 0, .int (-1)])), (hc, .inl (cC, 4, .inr (.inr (.inr (.inr fc))))), (w0, .inr (2, [.int 100, .int (-1)])), (hp, .inl (cP, 7, .inl fp)), (hg, .inr (3, [.ref go, .ref gs, .ref ge, .ref gb, .int 0, .int 0, .int 0, .int 0])), (gs, .inl (cS, 10, .inl (fun _ => 0))), (gb, .inl (cB, 10, .inl (fun _ => 0))), (qs, .inr (1, [.int 0, .ref (D.2 50 0), .int 0])), (qc, .inr (1, [.int 0, .ref (D.2 50 0), .int 0])), (qp, .inl (cM, 7, .inl fm)), (qd, .inl (cD, 1, .inr (.inr (.inr (.inl (fun _ => 0)))))), (h0, .inr (6, [.ref hu, .ref hs, .ref hc, .ref hp, .ref hg, .int 0, .int 0, .int 0, .int 0, .int 0])), (qo, .inl (cJ, 1, .inr (.inl (fun _ => 0))))]) (w1 := [(m0, .inr (10, [.int 1, .ref qu, .ref qs, .ref qc, .ref qp, .int 0, .int (-1), .int 0, .null])), (qu, .inr (1, [.int 0, .ref (D.2 50 0), .int 0]))]) (tr := [(cU, .object RX3), (cC, .object RX0), (cP, .int), (cS, .int), (cB, .int), (cM, .int), (cD, .double), (cJ, .long)]) hP hK hD [8, 9] [0, 1, 2, 3, 4, 5, 6, 7, 10, 11, 12, 13, 14, 15] rfl rfl rfl (by decide) ht_11 hvm_11 hk_11 hF_11 [0, 1, 2, 3, 4, 5, 6, 7] rfl hB_11
    have hS := hS1
    have hP : va_P D vwCl [(hu, .inl (cU, 10, .inr (.inr (.inr (.inr fu))))), (u0, .inr (5, [.ref ul, .int 0, .int 0, .int 45, .int 0, .int 0, .int (-1)])), (hc, .inl (cC, 4, .inr (.inr (.inr (.inr fc))))), (w0, .inr (2, [.int 100, .int (-1)])), (hp, .inl (cP, 7, .inl fp)), (hg, .inr (3, [.ref go, .ref gs, .ref ge, .ref gb, .int 0, .int 0, .int 0, .int 0])), (gs, .inl (cS, 10, .inl (fun _ => 0))), (gb, .inl (cB, 10, .inl (fun _ => 0))), (qs, .inr (1, [.int 0, .ref (D.2 50 0), .int 0])), (qc, .inr (1, [.int 0, .ref (D.2 50 0), .int 0])), (qp, .inl (cM, 7, .inl fm)), (qd, .inl (cD, 1, .inr (.inr (.inr (.inl (fun _ => 0)))))), (h0, .inr (6, [.ref hu, .ref hs, .ref hc, .ref hp, .ref hg, .int 0, .int 0, .int 0, .int 0, .int 0])), (qo, .inl (cJ, 1, .inr (.inl (fun _ => 0)))), (m0, .inr (10, [.int 1, .ref qu, .ref qs, .ref qc, .ref qp, .int 0, .int (-1), .int 0, .null])), (qu, .inr (1, [.int 0, .ref (D.2 50 0), .int 0]))] H1 := hP
    have hD : va_D A [(hu, .inl (cU, 10, .inr (.inr (.inr (.inr fu))))), (u0, .inr (5, [.ref ul, .int 0, .int 0, .int 45, .int 0, .int 0, .int (-1)])), (hc, .inl (cC, 4, .inr (.inr (.inr (.inr fc))))), (w0, .inr (2, [.int 100, .int (-1)])), (hp, .inl (cP, 7, .inl fp)), (hg, .inr (3, [.ref go, .ref gs, .ref ge, .ref gb, .int 0, .int 0, .int 0, .int 0])), (gs, .inl (cS, 10, .inl (fun _ => 0))), (gb, .inl (cB, 10, .inl (fun _ => 0))), (qs, .inr (1, [.int 0, .ref (D.2 50 0), .int 0])), (qc, .inr (1, [.int 0, .ref (D.2 50 0), .int 0])), (qp, .inl (cM, 7, .inl fm)), (qd, .inl (cD, 1, .inr (.inr (.inr (.inl (fun _ => 0)))))), (h0, .inr (6, [.ref hu, .ref hs, .ref hc, .ref hp, .ref hg, .int 0, .int 0, .int 0, .int 0, .int 0])), (qo, .inl (cJ, 1, .inr (.inl (fun _ => 0)))), (m0, .inr (10, [.int 1, .ref qu, .ref qs, .ref qc, .ref qp, .int 0, .int (-1), .int 0, .null])), (qu, .inr (1, [.int 0, .ref (D.2 50 0), .int 0]))] := hD
    have hK : va_K D vwCl [(cU, .object RX3), (cC, .object RX0), (cP, .int), (cS, .int), (cB, .int), (cM, .int), (cD, .double), (cJ, .long)] s := hK
    clear hS1
    refine lv_istore (lv' := [(7, .int r_11), (6, .int 1), (5, .int 0), (4, .ref qd), (3, .ref qo), (2, .ref m0), (1, .ref h0), (0, .ref b)]) hx hb dL_law_459 hl (by decide) rfl (fun ls hl => ?_)
    refine lv_aload_n hx hb dL_law_461 rfl (lv_at hl 5 rfl) ?_
    obtain ⟨hb_12, hc_12⟩ := z_call (wc := [(m0, .inr (10, [.int 1, .ref qu, .ref qs, .ref qc, .ref qp, .int 0, .int (-1), .int 0, .null]))]) (tc := []) ([.ref m0]) hP hK hD hS hA hE hX [14] rfl rfl [] rfl
    have hF_12 := va_free (wc := [(m0, .inr (10, [.int 1, .ref qu, .ref qs, .ref qc, .ref qp, .int 0, .int (-1), .int 0, .null]))]) hD hS hA [14] rfl
    refine va_calli (va_runV (As := []) (rest := []) ⟨hx, hb, hml, hown, hts⟩ (c_X8_thrown l D m0 qu qs qc qp 1 0 (-1) 0 .null _ ) (z_cV 0 hE zw_1108 zw_1109 zw_1110 zw_96 zw_1111 rfl rfl rfl (by decide +kernel) ⟨(Nat.le_of_ble_eq_true rfl), (Nat.le_of_ble_eq_true rfl)⟩) ⟨hb_12, va_recv hK hP (ci := 10) (q0 := 14) rfl rfl, hc_12⟩ rfl rfl hl.1 rfl (lv_room (Nat.le_of_ble_eq_true rfl)) dL_law_462 ⟨(Nat.le_of_ble_eq_true rfl), (Nat.le_of_ble_eq_true rfl)⟩) hS (fun q _ h => hF_12 q h) hF_12 (fun r_12 u_12 t_12 H1 locs ht_12 hvm_12 hw_12 hB_12 hz_12 hk_12 hS1 => ?_)
    obtain ⟨hP, hK, hD⟩ := z_back (wc := [(m0, .inr (10, [.int 1, .ref qu, .ref qs, .ref qc, .ref qp, .int 0, .int (-1), .int 0, .null]))]) (wr := [(hu, .inl (cU, 10, .inr (.inr (.inr (.inr fu))))), (u0, .inr (5, [.ref ul, .int 0, .int 0, .int 45, .int 0, .int 0, .int (-1)])), (hc, .inl (cC, 4, .inr (.inr (.inr (.inr fc))))), (w0, .inr (2, [.int 100, .int (-1)])), (hp, .inl (cP, 7, .inl fp)), (hg, .inr (3, [.ref go, .ref gs, .ref ge, .ref gb, .int 0, .int 0, .int 0, .int 0])), (gs, .inl (cS, 10, .inl (fun _ => 0))), (gb, .inl (cB, 10, .inl (fun _ => 0))), (qs, .inr (1, [.int 0, .ref (D.2 50 0), .int 0])), (qc, .inr (1, [.int 0, .ref (D.2 50 0), .int 0])), (qp, .inl (cM, 7, .inl fm)), (qd, .inl (cD, 1, .inr (.inr (.inr (.inl (fun _ => 0)))))), (h0, .inr (6, [.ref hu, .ref hs, .ref hc, .ref hp, .ref hg, .int 0, .int 0, .int 0, .int 0, .int 0])), (qo, .inl (cJ, 1, .inr (.inl (fun _ => 0)))), (qu, .inr (1, [.int 0, .ref (D.2 50 0), .int 0]))]) (w1 := [(m0, .inr (10, [.int 1, .ref qu, .ref qs, .ref qc, .ref qp, .int 0, .int (-1), .int 0, .null]))]) (tr := [(cU, .object RX3), (cC, .object RX0), (cP, .int), (cS, .int), (cB, .int), (cM, .int), (cD, .double), (cJ, .long)]) hP hK hD [14] [0, 1, 2, 3, 4, 5, 6, 7, 8, 9, 10, 11, 12, 13, 15] rfl rfl rfl (by decide) ht_12 hvm_12 hk_12 hF_12 [0, 1, 2, 3, 4, 5, 6, 7] rfl hB_12
    have hS := hS1
    have hP : va_P D vwCl [(hu, .inl (cU, 10, .inr (.inr (.inr (.inr fu))))), (u0, .inr (5, [.ref ul, .int 0, .int 0, .int 45, .int 0, .int 0, .int (-1)])), (hc, .inl (cC, 4, .inr (.inr (.inr (.inr fc))))), (w0, .inr (2, [.int 100, .int (-1)])), (hp, .inl (cP, 7, .inl fp)), (hg, .inr (3, [.ref go, .ref gs, .ref ge, .ref gb, .int 0, .int 0, .int 0, .int 0])), (gs, .inl (cS, 10, .inl (fun _ => 0))), (gb, .inl (cB, 10, .inl (fun _ => 0))), (qs, .inr (1, [.int 0, .ref (D.2 50 0), .int 0])), (qc, .inr (1, [.int 0, .ref (D.2 50 0), .int 0])), (qp, .inl (cM, 7, .inl fm)), (qd, .inl (cD, 1, .inr (.inr (.inr (.inl (fun _ => 0)))))), (h0, .inr (6, [.ref hu, .ref hs, .ref hc, .ref hp, .ref hg, .int 0, .int 0, .int 0, .int 0, .int 0])), (qo, .inl (cJ, 1, .inr (.inl (fun _ => 0)))), (qu, .inr (1, [.int 0, .ref (D.2 50 0), .int 0])), (m0, .inr (10, [.int 1, .ref qu, .ref qs, .ref qc, .ref qp, .int 0, .int (-1), .int 0, .null]))] H1 := hP
    have hD : va_D A [(hu, .inl (cU, 10, .inr (.inr (.inr (.inr fu))))), (u0, .inr (5, [.ref ul, .int 0, .int 0, .int 45, .int 0, .int 0, .int (-1)])), (hc, .inl (cC, 4, .inr (.inr (.inr (.inr fc))))), (w0, .inr (2, [.int 100, .int (-1)])), (hp, .inl (cP, 7, .inl fp)), (hg, .inr (3, [.ref go, .ref gs, .ref ge, .ref gb, .int 0, .int 0, .int 0, .int 0])), (gs, .inl (cS, 10, .inl (fun _ => 0))), (gb, .inl (cB, 10, .inl (fun _ => 0))), (qs, .inr (1, [.int 0, .ref (D.2 50 0), .int 0])), (qc, .inr (1, [.int 0, .ref (D.2 50 0), .int 0])), (qp, .inl (cM, 7, .inl fm)), (qd, .inl (cD, 1, .inr (.inr (.inr (.inl (fun _ => 0)))))), (h0, .inr (6, [.ref hu, .ref hs, .ref hc, .ref hp, .ref hg, .int 0, .int 0, .int 0, .int 0, .int 0])), (qo, .inl (cJ, 1, .inr (.inl (fun _ => 0)))), (qu, .inr (1, [.int 0, .ref (D.2 50 0), .int 0])), (m0, .inr (10, [.int 1, .ref qu, .ref qs, .ref qc, .ref qp, .int 0, .int (-1), .int 0, .null]))] := hD
    have hK : va_K D vwCl [(cU, .object RX3), (cC, .object RX0), (cP, .int), (cS, .int), (cB, .int), (cM, .int), (cD, .double), (cJ, .long)] s := hK
    clear hS1
    obtain rfl : r_12 = 1 := hw_12
    refine lv_iload hx hb dL_law_465 (lv_at hl 1 rfl) ?_
    refine lv_icmp_eq (tgt := 472) hx hb dL_law_467 (by decide) (fun c_13 => ?_) (fun c_13 => absurd (by decide) c_13)
    refine lv_iload hx hb dL_law_472 (lv_at hl 1 rfl) ?_
    refine lv_if_ne (tgt := 496) hx hb dL_law_474 (by decide) (fun c_14 => ?_) (fun c_14 => absurd c_14 (by decide))
    refine lv_goto (tgt := 2663) hx hb dL_law_496 (by decide) ?_
    exact law_end C0 hL7 hAF hbA hS (lv_sub (l' := [(5, .int 0), (0, .ref b)]) hl [2, 7] rfl) (Nat.le_of_ble_eq_true rfl) (Nat.le_of_ble_eq_true rfl)
theorem dL_law_499 : decode cL_law 499 = .ok (.aload_n 1, 1) := by decide +kernel
theorem dL_law_500 : decode cL_law 500 = .ok (.aload_n 0, 1) := by decide +kernel
theorem dL_law_501 : decode cL_law 501 = .ok (.iload 5, 2) := by decide +kernel
theorem dL_law_503 : decode cL_law 503 = .ok (.iconst 1, 1) := by decide +kernel
theorem dL_law_504 : decode cL_law 504 = .ok (.iadd, 1) := by decide +kernel
theorem dL_law_505 : decode cL_law 505 = .ok (.iaload, 1) := by decide +kernel
theorem dL_law_506 : decode cL_law 506 = .ok (.aload_n 0, 1) := by decide +kernel
theorem dL_law_507 : decode cL_law 507 = .ok (.iload 5, 2) := by decide +kernel
theorem dL_law_509 : decode cL_law 509 = .ok (.iconst 2, 1) := by decide +kernel
theorem dL_law_510 : decode cL_law 510 = .ok (.iadd, 1) := by decide +kernel
theorem dL_law_511 : decode cL_law 511 = .ok (.iaload, 1) := by decide +kernel
theorem dL_law_512 : decode cL_law 512 = .ok (.aload_n 3, 1) := by decide +kernel
theorem dL_law_513 : decode cL_law 513 = .ok (.invokestatic 169, 3) := by decide +kernel
theorem zw_580 : Cond.methodLink RL 169 yL_notice ∈ z_Ts := z_m 580 (by decide +kernel) (by decide +kernel)
theorem zw_581 : Cond.static yL_notice ∈ z_Ts := z_m 581 (by decide +kernel) (by decide +kernel)
theorem zw_582 : Cond.codeWith yL_notice cL_notice 5 (some .int) [(0, 10, 13, 23), (0, 10, 17, 15), (0, 10, 21, 13)] ∈ z_Ts := z_m 582 (by decide +kernel) (by decide +kernel)
theorem dL_law_516 : decode cL_law 516 = .ok (.istore 6, 2) := by decide +kernel
theorem dL_law_518 : decode cL_law 518 = .ok (.aload_n 2, 1) := by decide +kernel
theorem dL_law_519 : decode cL_law 519 = .ok (.aload_n 0, 1) := by decide +kernel
theorem dL_law_520 : decode cL_law 520 = .ok (.iload 5, 2) := by decide +kernel
theorem dL_law_522 : decode cL_law 522 = .ok (.iconst 1, 1) := by decide +kernel
theorem dL_law_523 : decode cL_law 523 = .ok (.iadd, 1) := by decide +kernel
theorem dL_law_524 : decode cL_law 524 = .ok (.iaload, 1) := by decide +kernel
theorem dL_law_525 : decode cL_law 525 = .ok (.aload_n 0, 1) := by decide +kernel
theorem dL_law_526 : decode cL_law 526 = .ok (.iload 5, 2) := by decide +kernel
theorem dL_law_528 : decode cL_law 528 = .ok (.iconst 2, 1) := by decide +kernel
theorem dL_law_529 : decode cL_law 529 = .ok (.iadd, 1) := by decide +kernel
theorem dL_law_530 : decode cL_law 530 = .ok (.iaload, 1) := by decide +kernel
theorem dL_law_531 : decode cL_law 531 = .ok (.invokevirtual 171, 3) := by decide +kernel
theorem zw_1321 : Cond.methodLink RL 171 yX8_notice ∈ z_Ts := z_m 1321 (by decide +kernel) (by decide +kernel)
theorem zw_1322 : Cond.instanceMethod yX8_notice ∈ z_Ts := z_m 1322 (by decide +kernel) (by decide +kernel)
theorem zw_1323 : Cond.selects RX8 yX8_notice yX8_notice ∈ z_Ts := z_m 1323 (by decide +kernel) (by decide +kernel)
theorem zw_1324 : Cond.code yX8_notice cX8_notice 3 (some .int) ∈ z_Ts := z_m 1324 (by decide +kernel) (by decide +kernel)
theorem dL_law_534 : decode cL_law 534 = .ok (.istore 7, 2) := by decide +kernel
theorem dL_law_536 : decode cL_law 536 = .ok (.aload_n 2, 1) := by decide +kernel
theorem dL_law_537 : decode cL_law 537 = .ok (.invokevirtual 156, 3) := by decide +kernel
theorem dL_law_540 : decode cL_law 540 = .ok (.iload 6, 2) := by decide +kernel
theorem dL_law_542 : decode cL_law 542 = .ok (.if_icmp .eq 5, 3) := by decide +kernel
theorem dL_law_547 : decode cL_law 547 = .ok (.iload 6, 2) := by decide +kernel
theorem dL_law_549 : decode cL_law 549 = .ok (.ifCond .ne 15, 3) := by decide +kernel
theorem dL_law_564 : decode cL_law 564 = .ok (.goto 2099, 3) := by decide +kernel
set_option maxHeartbeats 4000000 in
set_option maxRecDepth 100000 in
theorem law_4 {p : Program} {l : Launch} {e : Env} {s : State} {m : MethodId} {below : List Frame} {meth : Method} {c : Code} {b L : Nat} {xs : Nat → Int32} {D : va_G} {A : Nat → Prop} (C0 : lw_At p s m meth c b L xs) (hL7 : L = 7) (hst : l.stackTraces = false) (hE : z_E s) (hX : z_X D A s s.heap) (hA : ∀ q, s.heap.size ≤ q → A q) (hbA : ¬ A b) (hAF : ∀ q, A q → s.heap.size ≤ q) {h0 hu hs hc hp hg u0 ul w0 go gs ge gb m0 qu qs qc qp qo qd : Nat} {cU cC cP cS cB cM cJ cD : ClassId} {fu fc : Nat → Option Nat} {fp fm : Nat → Int32} (hfu : fu 0 = some u0) (hfc : fc 0 = some w0) (hfp : ∀ j : Nat, j < 7 → fp j = 100) (hfm : ∀ j : Nat, j < 7 → fm j = 100) {H : Heap} {locs : List Loc} (hK : va_K D vwCl [(cU, .object RX3), (cC, .object RX0), (cP, .int), (cS, .int), (cB, .int), (cM, .int), (cJ, .long), (cD, .double)] s) (hP : va_P D vwCl [(h0, .inr (6, [.ref hu, .ref hs, .ref hc, .ref hp, .ref hg, .int 0, .int 0, .int 0, .int 0, .int 0])), (hu, .inl (cU, 10, .inr (.inr (.inr (.inr fu))))), (u0, .inr (5, [.ref ul, .int 0, .int 0, .int 45, .int 0, .int 0, .int (-1)])), (hc, .inl (cC, 4, .inr (.inr (.inr (.inr fc))))), (w0, .inr (2, [.int 100, .int (-1)])), (hp, .inl (cP, 7, .inl fp)), (hg, .inr (3, [.ref go, .ref gs, .ref ge, .ref gb, .int 0, .int 0, .int 0, .int 0])), (gs, .inl (cS, 10, .inl (fun _ => 0))), (gb, .inl (cB, 10, .inl (fun _ => 0))), (m0, .inr (10, [.int 0, .ref qu, .ref qs, .ref qc, .ref qp, .int 0, .int (-1), .int 0, .null])), (qu, .inr (1, [.int 0, .ref (D.2 50 0), .int 0])), (qs, .inr (1, [.int 0, .ref (D.2 50 0), .int 0])), (qc, .inr (1, [.int 0, .ref (D.2 50 0), .int 0])), (qp, .inl (cM, 7, .inl fm)), (qo, .inl (cJ, 1, .inr (.inl (fun _ => 0)))), (qd, .inl (cD, 1, .inr (.inr (.inr (.inl (fun _ => 0))))))] H) (hD : va_D A [(h0, .inr (6, [.ref hu, .ref hs, .ref hc, .ref hp, .ref hg, .int 0, .int 0, .int 0, .int 0, .int 0])), (hu, .inl (cU, 10, .inr (.inr (.inr (.inr fu))))), (u0, .inr (5, [.ref ul, .int 0, .int 0, .int 45, .int 0, .int 0, .int (-1)])), (hc, .inl (cC, 4, .inr (.inr (.inr (.inr fc))))), (w0, .inr (2, [.int 100, .int (-1)])), (hp, .inl (cP, 7, .inl fp)), (hg, .inr (3, [.ref go, .ref gs, .ref ge, .ref gb, .int 0, .int 0, .int 0, .int 0])), (gs, .inl (cS, 10, .inl (fun _ => 0))), (gb, .inl (cB, 10, .inl (fun _ => 0))), (m0, .inr (10, [.int 0, .ref qu, .ref qs, .ref qc, .ref qp, .int 0, .int (-1), .int 0, .null])), (qu, .inr (1, [.int 0, .ref (D.2 50 0), .int 0])), (qs, .inr (1, [.int 0, .ref (D.2 50 0), .int 0])), (qc, .inr (1, [.int 0, .ref (D.2 50 0), .int 0])), (qp, .inl (cM, 7, .inl fm)), (qo, .inl (cJ, 1, .inr (.inl (fun _ => 0)))), (qd, .inl (cD, 1, .inr (.inr (.inr (.inl (fun _ => 0))))))]) (hS : va_S A s.heap H locs) {ls : Array Slot} (hl : lv_has ls 9 [(5, .int 0), (4, .ref qd), (3, .ref qo), (2, .ref m0), (1, .ref h0), (0, .ref b)]) : W p l e room_1 s m #[Value.ref b] below meth c H locs 62 437 (lw_Z below #[Value.ref b] s) (F0 m 499 ls []) := by
  obtain ⟨hx, hb, hr, hml, hown, hts0, hXs, hbl, hlocks, hgv⟩ := id C0
  have hts := z_E.ts (args := #[Value.ref b]) hE
  have hown : s.vm.findClass RL = some m.cls := hown
  refine lv_aload_n hx hb dL_law_499 rfl (lv_at hl 4 rfl) ?_
  refine lv_aload_n hx hb dL_law_500 rfl (lv_at hl 5 rfl) ?_
  refine lv_iload hx hb dL_law_501 (lv_at hl 0 rfl) ?_
  refine lv_iconst (v := 1) hx hb dL_law_503 (by decide) ?_
  refine lv_iadd hx hb dL_law_504 ?_
  refine lv_topi (fun x_1 ex_1 => ?_)
  obtain rfl : x_1 = 1 := ex_1.trans (by first | rfl | decide | simp)
  refine va_sld (i := 1) hx hb hXs hbl hbA hS (by rw [hL7]; unfold vp_in; decide) dL_law_505 ?_
  refine lv_topi (fun a_2 ea_2 => ?_)
  refine lv_aload_n hx hb dL_law_506 rfl (lv_at hl 5 rfl) ?_
  refine lv_iload hx hb dL_law_507 (lv_at hl 0 rfl) ?_
  refine lv_iconst (v := 2) hx hb dL_law_509 (by decide) ?_
  refine lv_iadd hx hb dL_law_510 ?_
  refine lv_topi (fun x_3 ex_3 => ?_)
  obtain rfl : x_3 = 2 := ex_3.trans (by first | rfl | decide | simp)
  refine va_sld (i := 2) hx hb hXs hbl hbA hS (by rw [hL7]; unfold vp_in; decide) dL_law_511 ?_
  refine lv_topi (fun a_4 ea_4 => ?_)
  refine lv_aload_n hx hb dL_law_512 rfl (lv_at hl 2 rfl) ?_
  obtain ⟨hb_6, hc_6⟩ := z_call (wc := [(h0, .inr (6, [.ref hu, .ref hs, .ref hc, .ref hp, .ref hg, .int 0, .int 0, .int 0, .int 0, .int 0])), (qo, .inl (cJ, 1, .inr (.inl (fun _ => 0))))]) (tc := [(cJ, .long)]) ([.ref h0, .int a_2, .int a_4, .ref qo]) hP hK hD hS hA hE hX [0, 14] rfl rfl [6] rfl
  have hF_6 := va_free (wc := [(h0, .inr (6, [.ref hu, .ref hs, .ref hc, .ref hp, .ref hg, .int 0, .int 0, .int 0, .int 0, .int 0])), (qo, .inl (cJ, 1, .inr (.inl (fun _ => 0))))]) hD hS hA [0, 14] rfl
  refine vx_calli (vx_runSX (As := [.ref h0, .int a_2, .int a_4, .ref qo]) (rest := []) ⟨hx, hb, hml, hown, hts⟩ (f_L_notice l hst D h0 hu hs hc hp hg 0 0 a_2 a_4 qo (fun _ => 0) cJ _ ) (z_cSW 4 hE zw_580 zw_581 zw_90 zw_582 rfl rfl rfl (by decide +kernel) ⟨(Nat.le_of_ble_eq_true rfl), (Nat.le_of_ble_eq_true rfl)⟩) ⟨hb_6, hc_6⟩ rfl rfl hl.1 rfl (lv_room (Nat.le_of_ble_eq_true rfl)) dL_law_513 ⟨(Nat.le_of_ble_eq_true rfl), (Nat.le_of_ble_eq_true rfl)⟩) hS (fun q _ h => hF_6 q h) hF_6 (fun q _ h => hF_6 q h) (fun E_6 ce_6 q9_6 u_6 t_6 H1 locs ht_6 hvm_6 hw_6 hB_6 hz_6 hk_6 hS1 hce_6 hcv_6 hcl_6 => ?_) (fun r_6 u_6 t_6 H1 locs ht_6 hvm_6 hw_6 hB_6 hz_6 hk_6 hS1 => ?_)
  · exact hw_6.elim
  · obtain ⟨hP, hK, hD⟩ := z_back (wc := [(h0, .inr (6, [.ref hu, .ref hs, .ref hc, .ref hp, .ref hg, .int 0, .int 0, .int 0, .int 0, .int 0])), (qo, .inl (cJ, 1, .inr (.inl (fun _ => 0))))]) (wr := [(hu, .inl (cU, 10, .inr (.inr (.inr (.inr fu))))), (u0, .inr (5, [.ref ul, .int 0, .int 0, .int 45, .int 0, .int 0, .int (-1)])), (hc, .inl (cC, 4, .inr (.inr (.inr (.inr fc))))), (w0, .inr (2, [.int 100, .int (-1)])), (hp, .inl (cP, 7, .inl fp)), (hg, .inr (3, [.ref go, .ref gs, .ref ge, .ref gb, .int 0, .int 0, .int 0, .int 0])), (gs, .inl (cS, 10, .inl (fun _ => 0))), (gb, .inl (cB, 10, .inl (fun _ => 0))), (m0, .inr (10, [.int 0, .ref qu, .ref qs, .ref qc, .ref qp, .int 0, .int (-1), .int 0, .null])), (qu, .inr (1, [.int 0, .ref (D.2 50 0), .int 0])), (qs, .inr (1, [.int 0, .ref (D.2 50 0), .int 0])), (qc, .inr (1, [.int 0, .ref (D.2 50 0), .int 0])), (qp, .inl (cM, 7, .inl fm)), (qd, .inl (cD, 1, .inr (.inr (.inr (.inl (fun _ => 0))))))]) (w1 := [(h0, .inr (6, [.ref hu, .ref hs, .ref hc, .ref hp, .ref hg, .int 0, .int 0, .int 0, .int 0, .int 0])), (qo, .inl (cJ, 1, .inr (.inl (fun _ => 0))))]) (tr := [(cU, .object RX3), (cC, .object RX0), (cP, .int), (cS, .int), (cB, .int), (cM, .int), (cD, .double)]) hP hK hD [0, 14] [1, 2, 3, 4, 5, 6, 7, 8, 9, 10, 11, 12, 13, 15] rfl rfl rfl (by decide) ht_6 hvm_6 hk_6 hF_6 [0, 1, 2, 3, 4, 5, 7] rfl hB_6
    have hS := hS1
    have hP : va_P D vwCl [(hu, .inl (cU, 10, .inr (.inr (.inr (.inr fu))))), (u0, .inr (5, [.ref ul, .int 0, .int 0, .int 45, .int 0, .int 0, .int (-1)])), (hc, .inl (cC, 4, .inr (.inr (.inr (.inr fc))))), (w0, .inr (2, [.int 100, .int (-1)])), (hp, .inl (cP, 7, .inl fp)), (hg, .inr (3, [.ref go, .ref gs, .ref ge, .ref gb, .int 0, .int 0, .int 0, .int 0])), (gs, .inl (cS, 10, .inl (fun _ => 0))), (gb, .inl (cB, 10, .inl (fun _ => 0))), (m0, .inr (10, [.int 0, .ref qu, .ref qs, .ref qc, .ref qp, .int 0, .int (-1), .int 0, .null])), (qu, .inr (1, [.int 0, .ref (D.2 50 0), .int 0])), (qs, .inr (1, [.int 0, .ref (D.2 50 0), .int 0])), (qc, .inr (1, [.int 0, .ref (D.2 50 0), .int 0])), (qp, .inl (cM, 7, .inl fm)), (qd, .inl (cD, 1, .inr (.inr (.inr (.inl (fun _ => 0)))))), (h0, .inr (6, [.ref hu, .ref hs, .ref hc, .ref hp, .ref hg, .int 0, .int 0, .int 0, .int 0, .int 0])), (qo, .inl (cJ, 1, .inr (.inl (fun _ => 0))))] H1 := hP
    have hD : va_D A [(hu, .inl (cU, 10, .inr (.inr (.inr (.inr fu))))), (u0, .inr (5, [.ref ul, .int 0, .int 0, .int 45, .int 0, .int 0, .int (-1)])), (hc, .inl (cC, 4, .inr (.inr (.inr (.inr fc))))), (w0, .inr (2, [.int 100, .int (-1)])), (hp, .inl (cP, 7, .inl fp)), (hg, .inr (3, [.ref go, .ref gs, .ref ge, .ref gb, .int 0, .int 0, .int 0, .int 0])), (gs, .inl (cS, 10, .inl (fun _ => 0))), (gb, .inl (cB, 10, .inl (fun _ => 0))), (m0, .inr (10, [.int 0, .ref qu, .ref qs, .ref qc, .ref qp, .int 0, .int (-1), .int 0, .null])), (qu, .inr (1, [.int 0, .ref (D.2 50 0), .int 0])), (qs, .inr (1, [.int 0, .ref (D.2 50 0), .int 0])), (qc, .inr (1, [.int 0, .ref (D.2 50 0), .int 0])), (qp, .inl (cM, 7, .inl fm)), (qd, .inl (cD, 1, .inr (.inr (.inr (.inl (fun _ => 0)))))), (h0, .inr (6, [.ref hu, .ref hs, .ref hc, .ref hp, .ref hg, .int 0, .int 0, .int 0, .int 0, .int 0])), (qo, .inl (cJ, 1, .inr (.inl (fun _ => 0))))] := hD
    have hK : va_K D vwCl [(cU, .object RX3), (cC, .object RX0), (cP, .int), (cS, .int), (cB, .int), (cM, .int), (cD, .double), (cJ, .long)] s := hK
    clear hS1
    obtain rfl : r_6 = 1 := hw_6
    refine lv_istore (lv' := [(6, .int 1), (5, .int 0), (4, .ref qd), (3, .ref qo), (2, .ref m0), (1, .ref h0), (0, .ref b)]) hx hb dL_law_516 hl (by decide) rfl (fun ls hl => ?_)
    refine lv_aload_n hx hb dL_law_518 rfl (lv_at hl 4 rfl) ?_
    refine lv_aload_n hx hb dL_law_519 rfl (lv_at hl 6 rfl) ?_
    refine lv_iload hx hb dL_law_520 (lv_at hl 1 rfl) ?_
    refine lv_iconst (v := 1) hx hb dL_law_522 (by decide) ?_
    refine lv_iadd hx hb dL_law_523 ?_
    refine lv_topi (fun x_7 ex_7 => ?_)
    obtain rfl : x_7 = 1 := ex_7.trans (by first | rfl | decide | simp)
    refine va_sld (i := 1) hx hb hXs hbl hbA hS (by rw [hL7]; unfold vp_in; decide) dL_law_524 ?_
    refine lv_topi (fun a_8 ea_8 => ?_)
    obtain rfl : a_2 = a_8 := ea_2.trans ea_8.symm
    refine lv_aload_n hx hb dL_law_525 rfl (lv_at hl 6 rfl) ?_
    refine lv_iload hx hb dL_law_526 (lv_at hl 1 rfl) ?_
    refine lv_iconst (v := 2) hx hb dL_law_528 (by decide) ?_
    refine lv_iadd hx hb dL_law_529 ?_
    refine lv_topi (fun x_9 ex_9 => ?_)
    obtain rfl : x_9 = 2 := ex_9.trans (by first | rfl | decide | simp)
    refine va_sld (i := 2) hx hb hXs hbl hbA hS (by rw [hL7]; unfold vp_in; decide) dL_law_530 ?_
    refine lv_topi (fun a_10 ea_10 => ?_)
    obtain rfl : a_4 = a_10 := ea_4.trans ea_10.symm
    obtain ⟨hb_11, hc_11⟩ := z_call (wc := [(m0, .inr (10, [.int 0, .ref qu, .ref qs, .ref qc, .ref qp, .int 0, .int (-1), .int 0, .null])), (qu, .inr (1, [.int 0, .ref (D.2 50 0), .int 0]))]) (tc := []) ([.ref m0, .int a_2, .int a_4]) hP hK hD hS hA hE hX [8, 9] rfl rfl [] rfl
    have hF_11 := va_free (wc := [(m0, .inr (10, [.int 0, .ref qu, .ref qs, .ref qc, .ref qp, .int 0, .int (-1), .int 0, .null])), (qu, .inr (1, [.int 0, .ref (D.2 50 0), .int 0]))]) hD hS hA [8, 9] rfl
    refine va_calli (va_runV (As := [.int a_2, .int a_4]) (rest := []) ⟨hx, hb, hml, hown, hts⟩ (f_X8_notice l D m0 qu qs qc qp 0 (D.2 50 0) a_2 a_4 _ ) (z_cV 2 hE zw_1321 zw_1322 zw_1323 zw_96 zw_1324 rfl rfl rfl (by decide +kernel) ⟨(Nat.le_of_ble_eq_true rfl), (Nat.le_of_ble_eq_true rfl)⟩) ⟨hb_11, va_recv hK hP (ci := 10) (q0 := 8) rfl rfl, hc_11⟩ rfl rfl hl.1 rfl (lv_room (Nat.le_of_ble_eq_true rfl)) dL_law_531 ⟨(Nat.le_of_ble_eq_true rfl), (Nat.le_of_ble_eq_true rfl)⟩) hS (fun q _ h => hF_11 q h) hF_11 (fun r_11 u_11 t_11 H1 locs ht_11 hvm_11 hw_11 hB_11 hz_11 hk_11 hS1 => ?_)
    obtain ⟨hP, hK, hD⟩ := z_back (wc := [(m0, .inr (10, [.int 0, .ref qu, .ref qs, .ref qc, .ref qp, .int 0, .int (-1), .int 0, .null])), (qu, .inr (1, [.int 0, .ref (D.2 50 0), .int 0]))]) (wr := [(hu, .inl (cU, 10, .inr (.inr (.inr (.inr fu))))), (u0, .inr (5, [.ref ul, .int 0, .int 0, .int 45, .int 0, .int 0, .int (-1)])), (hc, .inl (cC, 4, .inr (.inr (.inr (.inr fc))))), (w0, .inr (2, [.int 100, .int (-1)])), (hp, .inl (cP, 7, .inl fp)), (hg, .inr (3, [.ref go, .ref gs, .ref ge, .ref gb, .int 0, .int 0, .int 0, .int 0])), (gs, .inl (cS, 10, .inl (fun _ => 0))), (gb, .inl (cB, 10, .inl (fun _ => 0))), (qs, .inr (1, [.int 0, .ref (D.2 50 0), .int 0])), (qc, .inr (1, [.int 0, .ref (D.2 50 0), .int 0])), (qp, .inl (cM, 7, .inl fm)), (qd, .inl (cD, 1, .inr (.inr (.inr (.inl (fun _ => 0)))))), (h0, .inr (6, [.ref hu, .ref hs, .ref hc, .ref hp, .ref hg, .int 0, .int 0, .int 0, .int 0, .int 0])), (qo, .inl (cJ, 1, .inr (.inl (fun _ => 0))))]) (w1 := [(m0, .inr (10, [.int 1, .ref qu, .ref qs, .ref qc, .ref qp, .int 0, .int (-1), .int 0, .null])), (qu, .inr (1, [.int 0, .ref (D.2 50 0), .int 0]))]) (tr := [(cU, .object RX3), (cC, .object RX0), (cP, .int), (cS, .int), (cB, .int), (cM, .int), (cD, .double), (cJ, .long)]) hP hK hD [8, 9] [0, 1, 2, 3, 4, 5, 6, 7, 10, 11, 12, 13, 14, 15] rfl rfl rfl (by decide) ht_11 hvm_11 hk_11 hF_11 [0, 1, 2, 3, 4, 5, 6, 7] rfl hB_11
    have hS := hS1
    have hP : va_P D vwCl [(hu, .inl (cU, 10, .inr (.inr (.inr (.inr fu))))), (u0, .inr (5, [.ref ul, .int 0, .int 0, .int 45, .int 0, .int 0, .int (-1)])), (hc, .inl (cC, 4, .inr (.inr (.inr (.inr fc))))), (w0, .inr (2, [.int 100, .int (-1)])), (hp, .inl (cP, 7, .inl fp)), (hg, .inr (3, [.ref go, .ref gs, .ref ge, .ref gb, .int 0, .int 0, .int 0, .int 0])), (gs, .inl (cS, 10, .inl (fun _ => 0))), (gb, .inl (cB, 10, .inl (fun _ => 0))), (qs, .inr (1, [.int 0, .ref (D.2 50 0), .int 0])), (qc, .inr (1, [.int 0, .ref (D.2 50 0), .int 0])), (qp, .inl (cM, 7, .inl fm)), (qd, .inl (cD, 1, .inr (.inr (.inr (.inl (fun _ => 0)))))), (h0, .inr (6, [.ref hu, .ref hs, .ref hc, .ref hp, .ref hg, .int 0, .int 0, .int 0, .int 0, .int 0])), (qo, .inl (cJ, 1, .inr (.inl (fun _ => 0)))), (m0, .inr (10, [.int 1, .ref qu, .ref qs, .ref qc, .ref qp, .int 0, .int (-1), .int 0, .null])), (qu, .inr (1, [.int 0, .ref (D.2 50 0), .int 0]))] H1 := hP
    have hD : va_D A [(hu, .inl (cU, 10, .inr (.inr (.inr (.inr fu))))), (u0, .inr (5, [.ref ul, .int 0, .int 0, .int 45, .int 0, .int 0, .int (-1)])), (hc, .inl (cC, 4, .inr (.inr (.inr (.inr fc))))), (w0, .inr (2, [.int 100, .int (-1)])), (hp, .inl (cP, 7, .inl fp)), (hg, .inr (3, [.ref go, .ref gs, .ref ge, .ref gb, .int 0, .int 0, .int 0, .int 0])), (gs, .inl (cS, 10, .inl (fun _ => 0))), (gb, .inl (cB, 10, .inl (fun _ => 0))), (qs, .inr (1, [.int 0, .ref (D.2 50 0), .int 0])), (qc, .inr (1, [.int 0, .ref (D.2 50 0), .int 0])), (qp, .inl (cM, 7, .inl fm)), (qd, .inl (cD, 1, .inr (.inr (.inr (.inl (fun _ => 0)))))), (h0, .inr (6, [.ref hu, .ref hs, .ref hc, .ref hp, .ref hg, .int 0, .int 0, .int 0, .int 0, .int 0])), (qo, .inl (cJ, 1, .inr (.inl (fun _ => 0)))), (m0, .inr (10, [.int 1, .ref qu, .ref qs, .ref qc, .ref qp, .int 0, .int (-1), .int 0, .null])), (qu, .inr (1, [.int 0, .ref (D.2 50 0), .int 0]))] := hD
    have hK : va_K D vwCl [(cU, .object RX3), (cC, .object RX0), (cP, .int), (cS, .int), (cB, .int), (cM, .int), (cD, .double), (cJ, .long)] s := hK
    clear hS1
    refine lv_istore (lv' := [(7, .int r_11), (6, .int 1), (5, .int 0), (4, .ref qd), (3, .ref qo), (2, .ref m0), (1, .ref h0), (0, .ref b)]) hx hb dL_law_534 hl (by decide) rfl (fun ls hl => ?_)
    refine lv_aload_n hx hb dL_law_536 rfl (lv_at hl 5 rfl) ?_
    obtain ⟨hb_12, hc_12⟩ := z_call (wc := [(m0, .inr (10, [.int 1, .ref qu, .ref qs, .ref qc, .ref qp, .int 0, .int (-1), .int 0, .null]))]) (tc := []) ([.ref m0]) hP hK hD hS hA hE hX [14] rfl rfl [] rfl
    have hF_12 := va_free (wc := [(m0, .inr (10, [.int 1, .ref qu, .ref qs, .ref qc, .ref qp, .int 0, .int (-1), .int 0, .null]))]) hD hS hA [14] rfl
    refine va_calli (va_runV (As := []) (rest := []) ⟨hx, hb, hml, hown, hts⟩ (c_X8_thrown l D m0 qu qs qc qp 1 0 (-1) 0 .null _ ) (z_cV 0 hE zw_1108 zw_1109 zw_1110 zw_96 zw_1111 rfl rfl rfl (by decide +kernel) ⟨(Nat.le_of_ble_eq_true rfl), (Nat.le_of_ble_eq_true rfl)⟩) ⟨hb_12, va_recv hK hP (ci := 10) (q0 := 14) rfl rfl, hc_12⟩ rfl rfl hl.1 rfl (lv_room (Nat.le_of_ble_eq_true rfl)) dL_law_537 ⟨(Nat.le_of_ble_eq_true rfl), (Nat.le_of_ble_eq_true rfl)⟩) hS (fun q _ h => hF_12 q h) hF_12 (fun r_12 u_12 t_12 H1 locs ht_12 hvm_12 hw_12 hB_12 hz_12 hk_12 hS1 => ?_)
    obtain ⟨hP, hK, hD⟩ := z_back (wc := [(m0, .inr (10, [.int 1, .ref qu, .ref qs, .ref qc, .ref qp, .int 0, .int (-1), .int 0, .null]))]) (wr := [(hu, .inl (cU, 10, .inr (.inr (.inr (.inr fu))))), (u0, .inr (5, [.ref ul, .int 0, .int 0, .int 45, .int 0, .int 0, .int (-1)])), (hc, .inl (cC, 4, .inr (.inr (.inr (.inr fc))))), (w0, .inr (2, [.int 100, .int (-1)])), (hp, .inl (cP, 7, .inl fp)), (hg, .inr (3, [.ref go, .ref gs, .ref ge, .ref gb, .int 0, .int 0, .int 0, .int 0])), (gs, .inl (cS, 10, .inl (fun _ => 0))), (gb, .inl (cB, 10, .inl (fun _ => 0))), (qs, .inr (1, [.int 0, .ref (D.2 50 0), .int 0])), (qc, .inr (1, [.int 0, .ref (D.2 50 0), .int 0])), (qp, .inl (cM, 7, .inl fm)), (qd, .inl (cD, 1, .inr (.inr (.inr (.inl (fun _ => 0)))))), (h0, .inr (6, [.ref hu, .ref hs, .ref hc, .ref hp, .ref hg, .int 0, .int 0, .int 0, .int 0, .int 0])), (qo, .inl (cJ, 1, .inr (.inl (fun _ => 0)))), (qu, .inr (1, [.int 0, .ref (D.2 50 0), .int 0]))]) (w1 := [(m0, .inr (10, [.int 1, .ref qu, .ref qs, .ref qc, .ref qp, .int 0, .int (-1), .int 0, .null]))]) (tr := [(cU, .object RX3), (cC, .object RX0), (cP, .int), (cS, .int), (cB, .int), (cM, .int), (cD, .double), (cJ, .long)]) hP hK hD [14] [0, 1, 2, 3, 4, 5, 6, 7, 8, 9, 10, 11, 12, 13, 15] rfl rfl rfl (by decide) ht_12 hvm_12 hk_12 hF_12 [0, 1, 2, 3, 4, 5, 6, 7] rfl hB_12
    have hS := hS1
    have hP : va_P D vwCl [(hu, .inl (cU, 10, .inr (.inr (.inr (.inr fu))))), (u0, .inr (5, [.ref ul, .int 0, .int 0, .int 45, .int 0, .int 0, .int (-1)])), (hc, .inl (cC, 4, .inr (.inr (.inr (.inr fc))))), (w0, .inr (2, [.int 100, .int (-1)])), (hp, .inl (cP, 7, .inl fp)), (hg, .inr (3, [.ref go, .ref gs, .ref ge, .ref gb, .int 0, .int 0, .int 0, .int 0])), (gs, .inl (cS, 10, .inl (fun _ => 0))), (gb, .inl (cB, 10, .inl (fun _ => 0))), (qs, .inr (1, [.int 0, .ref (D.2 50 0), .int 0])), (qc, .inr (1, [.int 0, .ref (D.2 50 0), .int 0])), (qp, .inl (cM, 7, .inl fm)), (qd, .inl (cD, 1, .inr (.inr (.inr (.inl (fun _ => 0)))))), (h0, .inr (6, [.ref hu, .ref hs, .ref hc, .ref hp, .ref hg, .int 0, .int 0, .int 0, .int 0, .int 0])), (qo, .inl (cJ, 1, .inr (.inl (fun _ => 0)))), (qu, .inr (1, [.int 0, .ref (D.2 50 0), .int 0])), (m0, .inr (10, [.int 1, .ref qu, .ref qs, .ref qc, .ref qp, .int 0, .int (-1), .int 0, .null]))] H1 := hP
    have hD : va_D A [(hu, .inl (cU, 10, .inr (.inr (.inr (.inr fu))))), (u0, .inr (5, [.ref ul, .int 0, .int 0, .int 45, .int 0, .int 0, .int (-1)])), (hc, .inl (cC, 4, .inr (.inr (.inr (.inr fc))))), (w0, .inr (2, [.int 100, .int (-1)])), (hp, .inl (cP, 7, .inl fp)), (hg, .inr (3, [.ref go, .ref gs, .ref ge, .ref gb, .int 0, .int 0, .int 0, .int 0])), (gs, .inl (cS, 10, .inl (fun _ => 0))), (gb, .inl (cB, 10, .inl (fun _ => 0))), (qs, .inr (1, [.int 0, .ref (D.2 50 0), .int 0])), (qc, .inr (1, [.int 0, .ref (D.2 50 0), .int 0])), (qp, .inl (cM, 7, .inl fm)), (qd, .inl (cD, 1, .inr (.inr (.inr (.inl (fun _ => 0)))))), (h0, .inr (6, [.ref hu, .ref hs, .ref hc, .ref hp, .ref hg, .int 0, .int 0, .int 0, .int 0, .int 0])), (qo, .inl (cJ, 1, .inr (.inl (fun _ => 0)))), (qu, .inr (1, [.int 0, .ref (D.2 50 0), .int 0])), (m0, .inr (10, [.int 1, .ref qu, .ref qs, .ref qc, .ref qp, .int 0, .int (-1), .int 0, .null]))] := hD
    have hK : va_K D vwCl [(cU, .object RX3), (cC, .object RX0), (cP, .int), (cS, .int), (cB, .int), (cM, .int), (cD, .double), (cJ, .long)] s := hK
    clear hS1
    obtain rfl : r_12 = 1 := hw_12
    refine lv_iload hx hb dL_law_540 (lv_at hl 1 rfl) ?_
    refine lv_icmp_eq (tgt := 547) hx hb dL_law_542 (by decide) (fun c_13 => ?_) (fun c_13 => absurd (by decide) c_13)
    refine lv_iload hx hb dL_law_547 (lv_at hl 1 rfl) ?_
    refine lv_if_ne (tgt := 564) hx hb dL_law_549 (by decide) (fun c_14 => ?_) (fun c_14 => absurd c_14 (by decide))
    refine lv_goto (tgt := 2663) hx hb dL_law_564 (by decide) ?_
    exact law_end C0 hL7 hAF hbA hS (lv_sub (l' := [(5, .int 0), (0, .ref b)]) hl [2, 7] rfl) (Nat.le_of_ble_eq_true rfl) (Nat.le_of_ble_eq_true rfl)
theorem dL_law_567 : decode cL_law 567 = .ok (.aload_n 1, 1) := by decide +kernel
theorem dL_law_568 : decode cL_law 568 = .ok (.aload_n 0, 1) := by decide +kernel
theorem dL_law_569 : decode cL_law 569 = .ok (.iload 5, 2) := by decide +kernel
theorem dL_law_571 : decode cL_law 571 = .ok (.iconst 1, 1) := by decide +kernel
theorem dL_law_572 : decode cL_law 572 = .ok (.iadd, 1) := by decide +kernel
theorem dL_law_573 : decode cL_law 573 = .ok (.iaload, 1) := by decide +kernel
theorem dL_law_574 : decode cL_law 574 = .ok (.aload_n 3, 1) := by decide +kernel
theorem dL_law_575 : decode cL_law 575 = .ok (.invokestatic 172, 3) := by decide +kernel
theorem zw_588 : Cond.methodLink RL 172 yL_work ∈ z_Ts := z_m 588 (by decide +kernel) (by decide +kernel)
theorem zw_589 : Cond.static yL_work ∈ z_Ts := z_m 589 (by decide +kernel) (by decide +kernel)
theorem zw_590 : Cond.codeWith yL_work cL_work 4 (some .int) [(0, 9, 12, 23), (0, 9, 15, 39)] ∈ z_Ts := z_m 590 (by decide +kernel) (by decide +kernel)
theorem dL_law_578 : decode cL_law 578 = .ok (.istore 6, 2) := by decide +kernel
theorem dL_law_580 : decode cL_law 580 = .ok (.aload_n 2, 1) := by decide +kernel
theorem dL_law_581 : decode cL_law 581 = .ok (.aload_n 0, 1) := by decide +kernel
theorem dL_law_582 : decode cL_law 582 = .ok (.iload 5, 2) := by decide +kernel
theorem dL_law_584 : decode cL_law 584 = .ok (.iconst 1, 1) := by decide +kernel
theorem dL_law_585 : decode cL_law 585 = .ok (.iadd, 1) := by decide +kernel
theorem dL_law_586 : decode cL_law 586 = .ok (.iaload, 1) := by decide +kernel
theorem dL_law_587 : decode cL_law 587 = .ok (.invokevirtual 174, 3) := by decide +kernel
theorem zw_1326 : Cond.methodLink RL 174 yX8_work ∈ z_Ts := z_m 1326 (by decide +kernel) (by decide +kernel)
theorem zw_1327 : Cond.instanceMethod yX8_work ∈ z_Ts := z_m 1327 (by decide +kernel) (by decide +kernel)
theorem zw_1328 : Cond.selects RX8 yX8_work yX8_work ∈ z_Ts := z_m 1328 (by decide +kernel) (by decide +kernel)
theorem zw_1329 : Cond.code yX8_work cX8_work 2 (some .char) ∈ z_Ts := z_m 1329 (by decide +kernel) (by decide +kernel)
theorem dL_law_590 : decode cL_law 590 = .ok (.istore 7, 2) := by decide +kernel
theorem dL_law_592 : decode cL_law 592 = .ok (.aload_n 2, 1) := by decide +kernel
theorem dL_law_593 : decode cL_law 593 = .ok (.invokevirtual 156, 3) := by decide +kernel
theorem dL_law_596 : decode cL_law 596 = .ok (.iload 6, 2) := by decide +kernel
theorem dL_law_598 : decode cL_law 598 = .ok (.if_icmp .eq 5, 3) := by decide +kernel
theorem dL_law_603 : decode cL_law 603 = .ok (.iload 6, 2) := by decide +kernel
theorem dL_law_605 : decode cL_law 605 = .ok (.ifCond .ne 15, 3) := by decide +kernel
theorem dL_law_620 : decode cL_law 620 = .ok (.goto 2043, 3) := by decide +kernel
set_option maxHeartbeats 4000000 in
set_option maxRecDepth 100000 in
theorem law_5 {p : Program} {l : Launch} {e : Env} {s : State} {m : MethodId} {below : List Frame} {meth : Method} {c : Code} {b L : Nat} {xs : Nat → Int32} {D : va_G} {A : Nat → Prop} (C0 : lw_At p s m meth c b L xs) (hL7 : L = 7) (hst : l.stackTraces = false) (hE : z_E s) (hX : z_X D A s s.heap) (hA : ∀ q, s.heap.size ≤ q → A q) (hbA : ¬ A b) (hAF : ∀ q, A q → s.heap.size ≤ q) {h0 hu hs hc hp hg u0 ul w0 go gs ge gb m0 qu qs qc qp qo qd : Nat} {cU cC cP cS cB cM cJ cD : ClassId} {fu fc : Nat → Option Nat} {fp fm : Nat → Int32} (hfu : fu 0 = some u0) (hfc : fc 0 = some w0) (hfp : ∀ j : Nat, j < 7 → fp j = 100) (hfm : ∀ j : Nat, j < 7 → fm j = 100) {H : Heap} {locs : List Loc} (hK : va_K D vwCl [(cU, .object RX3), (cC, .object RX0), (cP, .int), (cS, .int), (cB, .int), (cM, .int), (cJ, .long), (cD, .double)] s) (hP : va_P D vwCl [(h0, .inr (6, [.ref hu, .ref hs, .ref hc, .ref hp, .ref hg, .int 0, .int 0, .int 0, .int 0, .int 0])), (hu, .inl (cU, 10, .inr (.inr (.inr (.inr fu))))), (u0, .inr (5, [.ref ul, .int 0, .int 0, .int 45, .int 0, .int 0, .int (-1)])), (hc, .inl (cC, 4, .inr (.inr (.inr (.inr fc))))), (w0, .inr (2, [.int 100, .int (-1)])), (hp, .inl (cP, 7, .inl fp)), (hg, .inr (3, [.ref go, .ref gs, .ref ge, .ref gb, .int 0, .int 0, .int 0, .int 0])), (gs, .inl (cS, 10, .inl (fun _ => 0))), (gb, .inl (cB, 10, .inl (fun _ => 0))), (m0, .inr (10, [.int 0, .ref qu, .ref qs, .ref qc, .ref qp, .int 0, .int (-1), .int 0, .null])), (qu, .inr (1, [.int 0, .ref (D.2 50 0), .int 0])), (qs, .inr (1, [.int 0, .ref (D.2 50 0), .int 0])), (qc, .inr (1, [.int 0, .ref (D.2 50 0), .int 0])), (qp, .inl (cM, 7, .inl fm)), (qo, .inl (cJ, 1, .inr (.inl (fun _ => 0)))), (qd, .inl (cD, 1, .inr (.inr (.inr (.inl (fun _ => 0))))))] H) (hD : va_D A [(h0, .inr (6, [.ref hu, .ref hs, .ref hc, .ref hp, .ref hg, .int 0, .int 0, .int 0, .int 0, .int 0])), (hu, .inl (cU, 10, .inr (.inr (.inr (.inr fu))))), (u0, .inr (5, [.ref ul, .int 0, .int 0, .int 45, .int 0, .int 0, .int (-1)])), (hc, .inl (cC, 4, .inr (.inr (.inr (.inr fc))))), (w0, .inr (2, [.int 100, .int (-1)])), (hp, .inl (cP, 7, .inl fp)), (hg, .inr (3, [.ref go, .ref gs, .ref ge, .ref gb, .int 0, .int 0, .int 0, .int 0])), (gs, .inl (cS, 10, .inl (fun _ => 0))), (gb, .inl (cB, 10, .inl (fun _ => 0))), (m0, .inr (10, [.int 0, .ref qu, .ref qs, .ref qc, .ref qp, .int 0, .int (-1), .int 0, .null])), (qu, .inr (1, [.int 0, .ref (D.2 50 0), .int 0])), (qs, .inr (1, [.int 0, .ref (D.2 50 0), .int 0])), (qc, .inr (1, [.int 0, .ref (D.2 50 0), .int 0])), (qp, .inl (cM, 7, .inl fm)), (qo, .inl (cJ, 1, .inr (.inl (fun _ => 0)))), (qd, .inl (cD, 1, .inr (.inr (.inr (.inl (fun _ => 0))))))]) (hS : va_S A s.heap H locs) {ls : Array Slot} (hl : lv_has ls 9 [(5, .int 0), (4, .ref qd), (3, .ref qo), (2, .ref m0), (1, .ref h0), (0, .ref b)]) : W p l e room_1 s m #[Value.ref b] below meth c H locs 62 437 (lw_Z below #[Value.ref b] s) (F0 m 567 ls []) := by
  obtain ⟨hx, hb, hr, hml, hown, hts0, hXs, hbl, hlocks, hgv⟩ := id C0
  have hts := z_E.ts (args := #[Value.ref b]) hE
  have hown : s.vm.findClass RL = some m.cls := hown
  refine lv_aload_n hx hb dL_law_567 rfl (lv_at hl 4 rfl) ?_
  refine lv_aload_n hx hb dL_law_568 rfl (lv_at hl 5 rfl) ?_
  refine lv_iload hx hb dL_law_569 (lv_at hl 0 rfl) ?_
  refine lv_iconst (v := 1) hx hb dL_law_571 (by decide) ?_
  refine lv_iadd hx hb dL_law_572 ?_
  refine lv_topi (fun x_1 ex_1 => ?_)
  obtain rfl : x_1 = 1 := ex_1.trans (by first | rfl | decide | simp)
  refine va_sld (i := 1) hx hb hXs hbl hbA hS (by rw [hL7]; unfold vp_in; decide) dL_law_573 ?_
  refine lv_topi (fun a_2 ea_2 => ?_)
  refine lv_aload_n hx hb dL_law_574 rfl (lv_at hl 2 rfl) ?_
  obtain ⟨hb_4, hc_4⟩ := z_call (wc := [(h0, .inr (6, [.ref hu, .ref hs, .ref hc, .ref hp, .ref hg, .int 0, .int 0, .int 0, .int 0, .int 0])), (qo, .inl (cJ, 1, .inr (.inl (fun _ => 0))))]) (tc := [(cJ, .long)]) ([.ref h0, .int a_2, .ref qo]) hP hK hD hS hA hE hX [0, 14] rfl rfl [6] rfl
  have hF_4 := va_free (wc := [(h0, .inr (6, [.ref hu, .ref hs, .ref hc, .ref hp, .ref hg, .int 0, .int 0, .int 0, .int 0, .int 0])), (qo, .inl (cJ, 1, .inr (.inl (fun _ => 0))))]) hD hS hA [0, 14] rfl
  refine vx_calli (vx_runSX (As := [.ref h0, .int a_2, .ref qo]) (rest := []) ⟨hx, hb, hml, hown, hts⟩ (f_L_work l hst D h0 hu hs hc hp hg 0 0 a_2 qo (fun _ => 0) cJ _ ) (z_cSW 3 hE zw_588 zw_589 zw_90 zw_590 rfl rfl rfl (by decide +kernel) ⟨(Nat.le_of_ble_eq_true rfl), (Nat.le_of_ble_eq_true rfl)⟩) ⟨hb_4, hc_4⟩ rfl rfl hl.1 rfl (lv_room (Nat.le_of_ble_eq_true rfl)) dL_law_575 ⟨(Nat.le_of_ble_eq_true rfl), (Nat.le_of_ble_eq_true rfl)⟩) hS (fun q _ h => hF_4 q h) hF_4 (fun q _ h => hF_4 q h) (fun E_4 ce_4 q9_4 u_4 t_4 H1 locs ht_4 hvm_4 hw_4 hB_4 hz_4 hk_4 hS1 hce_4 hcv_4 hcl_4 => ?_) (fun r_4 u_4 t_4 H1 locs ht_4 hvm_4 hw_4 hB_4 hz_4 hk_4 hS1 => ?_)
  · exact hw_4.elim
  · obtain ⟨hP, hK, hD⟩ := z_back (wc := [(h0, .inr (6, [.ref hu, .ref hs, .ref hc, .ref hp, .ref hg, .int 0, .int 0, .int 0, .int 0, .int 0])), (qo, .inl (cJ, 1, .inr (.inl (fun _ => 0))))]) (wr := [(hu, .inl (cU, 10, .inr (.inr (.inr (.inr fu))))), (u0, .inr (5, [.ref ul, .int 0, .int 0, .int 45, .int 0, .int 0, .int (-1)])), (hc, .inl (cC, 4, .inr (.inr (.inr (.inr fc))))), (w0, .inr (2, [.int 100, .int (-1)])), (hp, .inl (cP, 7, .inl fp)), (hg, .inr (3, [.ref go, .ref gs, .ref ge, .ref gb, .int 0, .int 0, .int 0, .int 0])), (gs, .inl (cS, 10, .inl (fun _ => 0))), (gb, .inl (cB, 10, .inl (fun _ => 0))), (m0, .inr (10, [.int 0, .ref qu, .ref qs, .ref qc, .ref qp, .int 0, .int (-1), .int 0, .null])), (qu, .inr (1, [.int 0, .ref (D.2 50 0), .int 0])), (qs, .inr (1, [.int 0, .ref (D.2 50 0), .int 0])), (qc, .inr (1, [.int 0, .ref (D.2 50 0), .int 0])), (qp, .inl (cM, 7, .inl fm)), (qd, .inl (cD, 1, .inr (.inr (.inr (.inl (fun _ => 0))))))]) (w1 := [(h0, .inr (6, [.ref hu, .ref hs, .ref hc, .ref hp, .ref hg, .int 0, .int 0, .int 0, .int 0, .int 0])), (qo, .inl (cJ, 1, .inr (.inl (fun _ => 0))))]) (tr := [(cU, .object RX3), (cC, .object RX0), (cP, .int), (cS, .int), (cB, .int), (cM, .int), (cD, .double)]) hP hK hD [0, 14] [1, 2, 3, 4, 5, 6, 7, 8, 9, 10, 11, 12, 13, 15] rfl rfl rfl (by decide) ht_4 hvm_4 hk_4 hF_4 [0, 1, 2, 3, 4, 5, 7] rfl hB_4
    have hS := hS1
    have hP : va_P D vwCl [(hu, .inl (cU, 10, .inr (.inr (.inr (.inr fu))))), (u0, .inr (5, [.ref ul, .int 0, .int 0, .int 45, .int 0, .int 0, .int (-1)])), (hc, .inl (cC, 4, .inr (.inr (.inr (.inr fc))))), (w0, .inr (2, [.int 100, .int (-1)])), (hp, .inl (cP, 7, .inl fp)), (hg, .inr (3, [.ref go, .ref gs, .ref ge, .ref gb, .int 0, .int 0, .int 0, .int 0])), (gs, .inl (cS, 10, .inl (fun _ => 0))), (gb, .inl (cB, 10, .inl (fun _ => 0))), (m0, .inr (10, [.int 0, .ref qu, .ref qs, .ref qc, .ref qp, .int 0, .int (-1), .int 0, .null])), (qu, .inr (1, [.int 0, .ref (D.2 50 0), .int 0])), (qs, .inr (1, [.int 0, .ref (D.2 50 0), .int 0])), (qc, .inr (1, [.int 0, .ref (D.2 50 0), .int 0])), (qp, .inl (cM, 7, .inl fm)), (qd, .inl (cD, 1, .inr (.inr (.inr (.inl (fun _ => 0)))))), (h0, .inr (6, [.ref hu, .ref hs, .ref hc, .ref hp, .ref hg, .int 0, .int 0, .int 0, .int 0, .int 0])), (qo, .inl (cJ, 1, .inr (.inl (fun _ => 0))))] H1 := hP
    have hD : va_D A [(hu, .inl (cU, 10, .inr (.inr (.inr (.inr fu))))), (u0, .inr (5, [.ref ul, .int 0, .int 0, .int 45, .int 0, .int 0, .int (-1)])), (hc, .inl (cC, 4, .inr (.inr (.inr (.inr fc))))), (w0, .inr (2, [.int 100, .int (-1)])), (hp, .inl (cP, 7, .inl fp)), (hg, .inr (3, [.ref go, .ref gs, .ref ge, .ref gb, .int 0, .int 0, .int 0, .int 0])), (gs, .inl (cS, 10, .inl (fun _ => 0))), (gb, .inl (cB, 10, .inl (fun _ => 0))), (m0, .inr (10, [.int 0, .ref qu, .ref qs, .ref qc, .ref qp, .int 0, .int (-1), .int 0, .null])), (qu, .inr (1, [.int 0, .ref (D.2 50 0), .int 0])), (qs, .inr (1, [.int 0, .ref (D.2 50 0), .int 0])), (qc, .inr (1, [.int 0, .ref (D.2 50 0), .int 0])), (qp, .inl (cM, 7, .inl fm)), (qd, .inl (cD, 1, .inr (.inr (.inr (.inl (fun _ => 0)))))), (h0, .inr (6, [.ref hu, .ref hs, .ref hc, .ref hp, .ref hg, .int 0, .int 0, .int 0, .int 0, .int 0])), (qo, .inl (cJ, 1, .inr (.inl (fun _ => 0))))] := hD
    have hK : va_K D vwCl [(cU, .object RX3), (cC, .object RX0), (cP, .int), (cS, .int), (cB, .int), (cM, .int), (cD, .double), (cJ, .long)] s := hK
    clear hS1
    obtain rfl : r_4 = 1 := hw_4
    refine lv_istore (lv' := [(6, .int 1), (5, .int 0), (4, .ref qd), (3, .ref qo), (2, .ref m0), (1, .ref h0), (0, .ref b)]) hx hb dL_law_578 hl (by decide) rfl (fun ls hl => ?_)
    refine lv_aload_n hx hb dL_law_580 rfl (lv_at hl 4 rfl) ?_
    refine lv_aload_n hx hb dL_law_581 rfl (lv_at hl 6 rfl) ?_
    refine lv_iload hx hb dL_law_582 (lv_at hl 1 rfl) ?_
    refine lv_iconst (v := 1) hx hb dL_law_584 (by decide) ?_
    refine lv_iadd hx hb dL_law_585 ?_
    refine lv_topi (fun x_5 ex_5 => ?_)
    obtain rfl : x_5 = 1 := ex_5.trans (by first | rfl | decide | simp)
    refine va_sld (i := 1) hx hb hXs hbl hbA hS (by rw [hL7]; unfold vp_in; decide) dL_law_586 ?_
    refine lv_topi (fun a_6 ea_6 => ?_)
    obtain rfl : a_2 = a_6 := ea_2.trans ea_6.symm
    obtain ⟨hb_7, hc_7⟩ := z_call (wc := [(m0, .inr (10, [.int 0, .ref qu, .ref qs, .ref qc, .ref qp, .int 0, .int (-1), .int 0, .null])), (qu, .inr (1, [.int 0, .ref (D.2 50 0), .int 0]))]) (tc := []) ([.ref m0, .int a_2]) hP hK hD hS hA hE hX [8, 9] rfl rfl [] rfl
    have hF_7 := va_free (wc := [(m0, .inr (10, [.int 0, .ref qu, .ref qs, .ref qc, .ref qp, .int 0, .int (-1), .int 0, .null])), (qu, .inr (1, [.int 0, .ref (D.2 50 0), .int 0]))]) hD hS hA [8, 9] rfl
    refine va_calli (va_runV (As := [.int a_2]) (rest := []) ⟨hx, hb, hml, hown, hts⟩ (f_X8_work l D m0 qu qs qc qp 0 (D.2 50 0) a_2 _ ) (z_cV 1 hE zw_1326 zw_1327 zw_1328 zw_96 zw_1329 rfl rfl rfl (by decide +kernel) ⟨(Nat.le_of_ble_eq_true rfl), (Nat.le_of_ble_eq_true rfl)⟩) ⟨hb_7, va_recv hK hP (ci := 10) (q0 := 8) rfl rfl, hc_7⟩ rfl rfl hl.1 rfl (lv_room (Nat.le_of_ble_eq_true rfl)) dL_law_587 ⟨(Nat.le_of_ble_eq_true rfl), (Nat.le_of_ble_eq_true rfl)⟩) hS (fun q _ h => hF_7 q h) hF_7 (fun r_7 u_7 t_7 H1 locs ht_7 hvm_7 hw_7 hB_7 hz_7 hk_7 hS1 => ?_)
    obtain ⟨hP, hK, hD⟩ := z_back (wc := [(m0, .inr (10, [.int 0, .ref qu, .ref qs, .ref qc, .ref qp, .int 0, .int (-1), .int 0, .null])), (qu, .inr (1, [.int 0, .ref (D.2 50 0), .int 0]))]) (wr := [(hu, .inl (cU, 10, .inr (.inr (.inr (.inr fu))))), (u0, .inr (5, [.ref ul, .int 0, .int 0, .int 45, .int 0, .int 0, .int (-1)])), (hc, .inl (cC, 4, .inr (.inr (.inr (.inr fc))))), (w0, .inr (2, [.int 100, .int (-1)])), (hp, .inl (cP, 7, .inl fp)), (hg, .inr (3, [.ref go, .ref gs, .ref ge, .ref gb, .int 0, .int 0, .int 0, .int 0])), (gs, .inl (cS, 10, .inl (fun _ => 0))), (gb, .inl (cB, 10, .inl (fun _ => 0))), (qs, .inr (1, [.int 0, .ref (D.2 50 0), .int 0])), (qc, .inr (1, [.int 0, .ref (D.2 50 0), .int 0])), (qp, .inl (cM, 7, .inl fm)), (qd, .inl (cD, 1, .inr (.inr (.inr (.inl (fun _ => 0)))))), (h0, .inr (6, [.ref hu, .ref hs, .ref hc, .ref hp, .ref hg, .int 0, .int 0, .int 0, .int 0, .int 0])), (qo, .inl (cJ, 1, .inr (.inl (fun _ => 0))))]) (w1 := [(m0, .inr (10, [.int 1, .ref qu, .ref qs, .ref qc, .ref qp, .int 0, .int (-1), .int 0, .null])), (qu, .inr (1, [.int 0, .ref (D.2 50 0), .int 0]))]) (tr := [(cU, .object RX3), (cC, .object RX0), (cP, .int), (cS, .int), (cB, .int), (cM, .int), (cD, .double), (cJ, .long)]) hP hK hD [8, 9] [0, 1, 2, 3, 4, 5, 6, 7, 10, 11, 12, 13, 14, 15] rfl rfl rfl (by decide) ht_7 hvm_7 hk_7 hF_7 [0, 1, 2, 3, 4, 5, 6, 7] rfl hB_7
    have hS := hS1
    have hP : va_P D vwCl [(hu, .inl (cU, 10, .inr (.inr (.inr (.inr fu))))), (u0, .inr (5, [.ref ul, .int 0, .int 0, .int 45, .int 0, .int 0, .int (-1)])), (hc, .inl (cC, 4, .inr (.inr (.inr (.inr fc))))), (w0, .inr (2, [.int 100, .int (-1)])), (hp, .inl (cP, 7, .inl fp)), (hg, .inr (3, [.ref go, .ref gs, .ref ge, .ref gb, .int 0, .int 0, .int 0, .int 0])), (gs, .inl (cS, 10, .inl (fun _ => 0))), (gb, .inl (cB, 10, .inl (fun _ => 0))), (qs, .inr (1, [.int 0, .ref (D.2 50 0), .int 0])), (qc, .inr (1, [.int 0, .ref (D.2 50 0), .int 0])), (qp, .inl (cM, 7, .inl fm)), (qd, .inl (cD, 1, .inr (.inr (.inr (.inl (fun _ => 0)))))), (h0, .inr (6, [.ref hu, .ref hs, .ref hc, .ref hp, .ref hg, .int 0, .int 0, .int 0, .int 0, .int 0])), (qo, .inl (cJ, 1, .inr (.inl (fun _ => 0)))), (m0, .inr (10, [.int 1, .ref qu, .ref qs, .ref qc, .ref qp, .int 0, .int (-1), .int 0, .null])), (qu, .inr (1, [.int 0, .ref (D.2 50 0), .int 0]))] H1 := hP
    have hD : va_D A [(hu, .inl (cU, 10, .inr (.inr (.inr (.inr fu))))), (u0, .inr (5, [.ref ul, .int 0, .int 0, .int 45, .int 0, .int 0, .int (-1)])), (hc, .inl (cC, 4, .inr (.inr (.inr (.inr fc))))), (w0, .inr (2, [.int 100, .int (-1)])), (hp, .inl (cP, 7, .inl fp)), (hg, .inr (3, [.ref go, .ref gs, .ref ge, .ref gb, .int 0, .int 0, .int 0, .int 0])), (gs, .inl (cS, 10, .inl (fun _ => 0))), (gb, .inl (cB, 10, .inl (fun _ => 0))), (qs, .inr (1, [.int 0, .ref (D.2 50 0), .int 0])), (qc, .inr (1, [.int 0, .ref (D.2 50 0), .int 0])), (qp, .inl (cM, 7, .inl fm)), (qd, .inl (cD, 1, .inr (.inr (.inr (.inl (fun _ => 0)))))), (h0, .inr (6, [.ref hu, .ref hs, .ref hc, .ref hp, .ref hg, .int 0, .int 0, .int 0, .int 0, .int 0])), (qo, .inl (cJ, 1, .inr (.inl (fun _ => 0)))), (m0, .inr (10, [.int 1, .ref qu, .ref qs, .ref qc, .ref qp, .int 0, .int (-1), .int 0, .null])), (qu, .inr (1, [.int 0, .ref (D.2 50 0), .int 0]))] := hD
    have hK : va_K D vwCl [(cU, .object RX3), (cC, .object RX0), (cP, .int), (cS, .int), (cB, .int), (cM, .int), (cD, .double), (cJ, .long)] s := hK
    clear hS1
    refine lv_istore (lv' := [(7, .int r_7), (6, .int 1), (5, .int 0), (4, .ref qd), (3, .ref qo), (2, .ref m0), (1, .ref h0), (0, .ref b)]) hx hb dL_law_590 hl (by decide) rfl (fun ls hl => ?_)
    refine lv_aload_n hx hb dL_law_592 rfl (lv_at hl 5 rfl) ?_
    obtain ⟨hb_8, hc_8⟩ := z_call (wc := [(m0, .inr (10, [.int 1, .ref qu, .ref qs, .ref qc, .ref qp, .int 0, .int (-1), .int 0, .null]))]) (tc := []) ([.ref m0]) hP hK hD hS hA hE hX [14] rfl rfl [] rfl
    have hF_8 := va_free (wc := [(m0, .inr (10, [.int 1, .ref qu, .ref qs, .ref qc, .ref qp, .int 0, .int (-1), .int 0, .null]))]) hD hS hA [14] rfl
    refine va_calli (va_runV (As := []) (rest := []) ⟨hx, hb, hml, hown, hts⟩ (c_X8_thrown l D m0 qu qs qc qp 1 0 (-1) 0 .null _ ) (z_cV 0 hE zw_1108 zw_1109 zw_1110 zw_96 zw_1111 rfl rfl rfl (by decide +kernel) ⟨(Nat.le_of_ble_eq_true rfl), (Nat.le_of_ble_eq_true rfl)⟩) ⟨hb_8, va_recv hK hP (ci := 10) (q0 := 14) rfl rfl, hc_8⟩ rfl rfl hl.1 rfl (lv_room (Nat.le_of_ble_eq_true rfl)) dL_law_593 ⟨(Nat.le_of_ble_eq_true rfl), (Nat.le_of_ble_eq_true rfl)⟩) hS (fun q _ h => hF_8 q h) hF_8 (fun r_8 u_8 t_8 H1 locs ht_8 hvm_8 hw_8 hB_8 hz_8 hk_8 hS1 => ?_)
    obtain ⟨hP, hK, hD⟩ := z_back (wc := [(m0, .inr (10, [.int 1, .ref qu, .ref qs, .ref qc, .ref qp, .int 0, .int (-1), .int 0, .null]))]) (wr := [(hu, .inl (cU, 10, .inr (.inr (.inr (.inr fu))))), (u0, .inr (5, [.ref ul, .int 0, .int 0, .int 45, .int 0, .int 0, .int (-1)])), (hc, .inl (cC, 4, .inr (.inr (.inr (.inr fc))))), (w0, .inr (2, [.int 100, .int (-1)])), (hp, .inl (cP, 7, .inl fp)), (hg, .inr (3, [.ref go, .ref gs, .ref ge, .ref gb, .int 0, .int 0, .int 0, .int 0])), (gs, .inl (cS, 10, .inl (fun _ => 0))), (gb, .inl (cB, 10, .inl (fun _ => 0))), (qs, .inr (1, [.int 0, .ref (D.2 50 0), .int 0])), (qc, .inr (1, [.int 0, .ref (D.2 50 0), .int 0])), (qp, .inl (cM, 7, .inl fm)), (qd, .inl (cD, 1, .inr (.inr (.inr (.inl (fun _ => 0)))))), (h0, .inr (6, [.ref hu, .ref hs, .ref hc, .ref hp, .ref hg, .int 0, .int 0, .int 0, .int 0, .int 0])), (qo, .inl (cJ, 1, .inr (.inl (fun _ => 0)))), (qu, .inr (1, [.int 0, .ref (D.2 50 0), .int 0]))]) (w1 := [(m0, .inr (10, [.int 1, .ref qu, .ref qs, .ref qc, .ref qp, .int 0, .int (-1), .int 0, .null]))]) (tr := [(cU, .object RX3), (cC, .object RX0), (cP, .int), (cS, .int), (cB, .int), (cM, .int), (cD, .double), (cJ, .long)]) hP hK hD [14] [0, 1, 2, 3, 4, 5, 6, 7, 8, 9, 10, 11, 12, 13, 15] rfl rfl rfl (by decide) ht_8 hvm_8 hk_8 hF_8 [0, 1, 2, 3, 4, 5, 6, 7] rfl hB_8
    have hS := hS1
    have hP : va_P D vwCl [(hu, .inl (cU, 10, .inr (.inr (.inr (.inr fu))))), (u0, .inr (5, [.ref ul, .int 0, .int 0, .int 45, .int 0, .int 0, .int (-1)])), (hc, .inl (cC, 4, .inr (.inr (.inr (.inr fc))))), (w0, .inr (2, [.int 100, .int (-1)])), (hp, .inl (cP, 7, .inl fp)), (hg, .inr (3, [.ref go, .ref gs, .ref ge, .ref gb, .int 0, .int 0, .int 0, .int 0])), (gs, .inl (cS, 10, .inl (fun _ => 0))), (gb, .inl (cB, 10, .inl (fun _ => 0))), (qs, .inr (1, [.int 0, .ref (D.2 50 0), .int 0])), (qc, .inr (1, [.int 0, .ref (D.2 50 0), .int 0])), (qp, .inl (cM, 7, .inl fm)), (qd, .inl (cD, 1, .inr (.inr (.inr (.inl (fun _ => 0)))))), (h0, .inr (6, [.ref hu, .ref hs, .ref hc, .ref hp, .ref hg, .int 0, .int 0, .int 0, .int 0, .int 0])), (qo, .inl (cJ, 1, .inr (.inl (fun _ => 0)))), (qu, .inr (1, [.int 0, .ref (D.2 50 0), .int 0])), (m0, .inr (10, [.int 1, .ref qu, .ref qs, .ref qc, .ref qp, .int 0, .int (-1), .int 0, .null]))] H1 := hP
    have hD : va_D A [(hu, .inl (cU, 10, .inr (.inr (.inr (.inr fu))))), (u0, .inr (5, [.ref ul, .int 0, .int 0, .int 45, .int 0, .int 0, .int (-1)])), (hc, .inl (cC, 4, .inr (.inr (.inr (.inr fc))))), (w0, .inr (2, [.int 100, .int (-1)])), (hp, .inl (cP, 7, .inl fp)), (hg, .inr (3, [.ref go, .ref gs, .ref ge, .ref gb, .int 0, .int 0, .int 0, .int 0])), (gs, .inl (cS, 10, .inl (fun _ => 0))), (gb, .inl (cB, 10, .inl (fun _ => 0))), (qs, .inr (1, [.int 0, .ref (D.2 50 0), .int 0])), (qc, .inr (1, [.int 0, .ref (D.2 50 0), .int 0])), (qp, .inl (cM, 7, .inl fm)), (qd, .inl (cD, 1, .inr (.inr (.inr (.inl (fun _ => 0)))))), (h0, .inr (6, [.ref hu, .ref hs, .ref hc, .ref hp, .ref hg, .int 0, .int 0, .int 0, .int 0, .int 0])), (qo, .inl (cJ, 1, .inr (.inl (fun _ => 0)))), (qu, .inr (1, [.int 0, .ref (D.2 50 0), .int 0])), (m0, .inr (10, [.int 1, .ref qu, .ref qs, .ref qc, .ref qp, .int 0, .int (-1), .int 0, .null]))] := hD
    have hK : va_K D vwCl [(cU, .object RX3), (cC, .object RX0), (cP, .int), (cS, .int), (cB, .int), (cM, .int), (cD, .double), (cJ, .long)] s := hK
    clear hS1
    obtain rfl : r_8 = 1 := hw_8
    refine lv_iload hx hb dL_law_596 (lv_at hl 1 rfl) ?_
    refine lv_icmp_eq (tgt := 603) hx hb dL_law_598 (by decide) (fun c_9 => ?_) (fun c_9 => absurd (by decide) c_9)
    refine lv_iload hx hb dL_law_603 (lv_at hl 1 rfl) ?_
    refine lv_if_ne (tgt := 620) hx hb dL_law_605 (by decide) (fun c_10 => ?_) (fun c_10 => absurd c_10 (by decide))
    refine lv_goto (tgt := 2663) hx hb dL_law_620 (by decide) ?_
    exact law_end C0 hL7 hAF hbA hS (lv_sub (l' := [(5, .int 0), (0, .ref b)]) hl [2, 7] rfl) (Nat.le_of_ble_eq_true rfl) (Nat.le_of_ble_eq_true rfl)
theorem dL_law_623 : decode cL_law 623 = .ok (.aload_n 1, 1) := by decide +kernel
theorem dL_law_624 : decode cL_law 624 = .ok (.aload_n 0, 1) := by decide +kernel
theorem dL_law_625 : decode cL_law 625 = .ok (.iload 5, 2) := by decide +kernel
theorem dL_law_627 : decode cL_law 627 = .ok (.iconst 1, 1) := by decide +kernel
theorem dL_law_628 : decode cL_law 628 = .ok (.iadd, 1) := by decide +kernel
theorem dL_law_629 : decode cL_law 629 = .ok (.iaload, 1) := by decide +kernel
theorem dL_law_630 : decode cL_law 630 = .ok (.aload_n 3, 1) := by decide +kernel
theorem dL_law_631 : decode cL_law 631 = .ok (.invokestatic 175, 3) := by decide +kernel
theorem zw_616 : Cond.methodLink RL 175 yL_left ∈ z_Ts := z_m 616 (by decide +kernel) (by decide +kernel)
theorem zw_617 : Cond.static yL_left ∈ z_Ts := z_m 617 (by decide +kernel) (by decide +kernel)
theorem zw_618 : Cond.codeWith yL_left cL_left 4 (some .int) [(0, 9, 12, 23), (0, 9, 15, 39)] ∈ z_Ts := z_m 618 (by decide +kernel) (by decide +kernel)
theorem dL_law_634 : decode cL_law 634 = .ok (.istore 6, 2) := by decide +kernel
theorem dL_law_636 : decode cL_law 636 = .ok (.aload_n 2, 1) := by decide +kernel
theorem dL_law_637 : decode cL_law 637 = .ok (.aload_n 0, 1) := by decide +kernel
theorem dL_law_638 : decode cL_law 638 = .ok (.iload 5, 2) := by decide +kernel
theorem dL_law_640 : decode cL_law 640 = .ok (.iconst 1, 1) := by decide +kernel
theorem dL_law_641 : decode cL_law 641 = .ok (.iadd, 1) := by decide +kernel
theorem dL_law_642 : decode cL_law 642 = .ok (.iaload, 1) := by decide +kernel
theorem dL_law_643 : decode cL_law 643 = .ok (.invokevirtual 177, 3) := by decide +kernel
theorem zw_1334 : Cond.methodLink RL 177 yX8_left ∈ z_Ts := z_m 1334 (by decide +kernel) (by decide +kernel)
theorem zw_1335 : Cond.instanceMethod yX8_left ∈ z_Ts := z_m 1335 (by decide +kernel) (by decide +kernel)
theorem zw_1336 : Cond.selects RX8 yX8_left yX8_left ∈ z_Ts := z_m 1336 (by decide +kernel) (by decide +kernel)
theorem zw_1337 : Cond.code yX8_left cX8_left 2 (some .int) ∈ z_Ts := z_m 1337 (by decide +kernel) (by decide +kernel)
theorem dL_law_646 : decode cL_law 646 = .ok (.istore 7, 2) := by decide +kernel
theorem dL_law_648 : decode cL_law 648 = .ok (.aload_n 2, 1) := by decide +kernel
theorem dL_law_649 : decode cL_law 649 = .ok (.invokevirtual 156, 3) := by decide +kernel
theorem dL_law_652 : decode cL_law 652 = .ok (.iload 6, 2) := by decide +kernel
theorem dL_law_654 : decode cL_law 654 = .ok (.if_icmp .eq 5, 3) := by decide +kernel
theorem dL_law_659 : decode cL_law 659 = .ok (.iload 6, 2) := by decide +kernel
theorem dL_law_661 : decode cL_law 661 = .ok (.ifCond .ne 15, 3) := by decide +kernel
theorem dL_law_676 : decode cL_law 676 = .ok (.goto 1987, 3) := by decide +kernel
set_option maxHeartbeats 4000000 in
set_option maxRecDepth 100000 in
theorem law_6 {p : Program} {l : Launch} {e : Env} {s : State} {m : MethodId} {below : List Frame} {meth : Method} {c : Code} {b L : Nat} {xs : Nat → Int32} {D : va_G} {A : Nat → Prop} (C0 : lw_At p s m meth c b L xs) (hL7 : L = 7) (hst : l.stackTraces = false) (hE : z_E s) (hX : z_X D A s s.heap) (hA : ∀ q, s.heap.size ≤ q → A q) (hbA : ¬ A b) (hAF : ∀ q, A q → s.heap.size ≤ q) {h0 hu hs hc hp hg u0 ul w0 go gs ge gb m0 qu qs qc qp qo qd : Nat} {cU cC cP cS cB cM cJ cD : ClassId} {fu fc : Nat → Option Nat} {fp fm : Nat → Int32} (hfu : fu 0 = some u0) (hfc : fc 0 = some w0) (hfp : ∀ j : Nat, j < 7 → fp j = 100) (hfm : ∀ j : Nat, j < 7 → fm j = 100) {H : Heap} {locs : List Loc} (hK : va_K D vwCl [(cU, .object RX3), (cC, .object RX0), (cP, .int), (cS, .int), (cB, .int), (cM, .int), (cJ, .long), (cD, .double)] s) (hP : va_P D vwCl [(h0, .inr (6, [.ref hu, .ref hs, .ref hc, .ref hp, .ref hg, .int 0, .int 0, .int 0, .int 0, .int 0])), (hu, .inl (cU, 10, .inr (.inr (.inr (.inr fu))))), (u0, .inr (5, [.ref ul, .int 0, .int 0, .int 45, .int 0, .int 0, .int (-1)])), (hc, .inl (cC, 4, .inr (.inr (.inr (.inr fc))))), (w0, .inr (2, [.int 100, .int (-1)])), (hp, .inl (cP, 7, .inl fp)), (hg, .inr (3, [.ref go, .ref gs, .ref ge, .ref gb, .int 0, .int 0, .int 0, .int 0])), (gs, .inl (cS, 10, .inl (fun _ => 0))), (gb, .inl (cB, 10, .inl (fun _ => 0))), (m0, .inr (10, [.int 0, .ref qu, .ref qs, .ref qc, .ref qp, .int 0, .int (-1), .int 0, .null])), (qu, .inr (1, [.int 0, .ref (D.2 50 0), .int 0])), (qs, .inr (1, [.int 0, .ref (D.2 50 0), .int 0])), (qc, .inr (1, [.int 0, .ref (D.2 50 0), .int 0])), (qp, .inl (cM, 7, .inl fm)), (qo, .inl (cJ, 1, .inr (.inl (fun _ => 0)))), (qd, .inl (cD, 1, .inr (.inr (.inr (.inl (fun _ => 0))))))] H) (hD : va_D A [(h0, .inr (6, [.ref hu, .ref hs, .ref hc, .ref hp, .ref hg, .int 0, .int 0, .int 0, .int 0, .int 0])), (hu, .inl (cU, 10, .inr (.inr (.inr (.inr fu))))), (u0, .inr (5, [.ref ul, .int 0, .int 0, .int 45, .int 0, .int 0, .int (-1)])), (hc, .inl (cC, 4, .inr (.inr (.inr (.inr fc))))), (w0, .inr (2, [.int 100, .int (-1)])), (hp, .inl (cP, 7, .inl fp)), (hg, .inr (3, [.ref go, .ref gs, .ref ge, .ref gb, .int 0, .int 0, .int 0, .int 0])), (gs, .inl (cS, 10, .inl (fun _ => 0))), (gb, .inl (cB, 10, .inl (fun _ => 0))), (m0, .inr (10, [.int 0, .ref qu, .ref qs, .ref qc, .ref qp, .int 0, .int (-1), .int 0, .null])), (qu, .inr (1, [.int 0, .ref (D.2 50 0), .int 0])), (qs, .inr (1, [.int 0, .ref (D.2 50 0), .int 0])), (qc, .inr (1, [.int 0, .ref (D.2 50 0), .int 0])), (qp, .inl (cM, 7, .inl fm)), (qo, .inl (cJ, 1, .inr (.inl (fun _ => 0)))), (qd, .inl (cD, 1, .inr (.inr (.inr (.inl (fun _ => 0))))))]) (hS : va_S A s.heap H locs) {ls : Array Slot} (hl : lv_has ls 9 [(5, .int 0), (4, .ref qd), (3, .ref qo), (2, .ref m0), (1, .ref h0), (0, .ref b)]) : W p l e room_1 s m #[Value.ref b] below meth c H locs 62 437 (lw_Z below #[Value.ref b] s) (F0 m 623 ls []) := by
  obtain ⟨hx, hb, hr, hml, hown, hts0, hXs, hbl, hlocks, hgv⟩ := id C0
  have hts := z_E.ts (args := #[Value.ref b]) hE
  have hown : s.vm.findClass RL = some m.cls := hown
  refine lv_aload_n hx hb dL_law_623 rfl (lv_at hl 4 rfl) ?_
  refine lv_aload_n hx hb dL_law_624 rfl (lv_at hl 5 rfl) ?_
  refine lv_iload hx hb dL_law_625 (lv_at hl 0 rfl) ?_
  refine lv_iconst (v := 1) hx hb dL_law_627 (by decide) ?_
  refine lv_iadd hx hb dL_law_628 ?_
  refine lv_topi (fun x_1 ex_1 => ?_)
  obtain rfl : x_1 = 1 := ex_1.trans (by first | rfl | decide | simp)
  refine va_sld (i := 1) hx hb hXs hbl hbA hS (by rw [hL7]; unfold vp_in; decide) dL_law_629 ?_
  refine lv_topi (fun a_2 ea_2 => ?_)
  refine lv_aload_n hx hb dL_law_630 rfl (lv_at hl 2 rfl) ?_
  obtain ⟨hb_4, hc_4⟩ := z_call (wc := [(h0, .inr (6, [.ref hu, .ref hs, .ref hc, .ref hp, .ref hg, .int 0, .int 0, .int 0, .int 0, .int 0])), (qo, .inl (cJ, 1, .inr (.inl (fun _ => 0))))]) (tc := [(cJ, .long)]) ([.ref h0, .int a_2, .ref qo]) hP hK hD hS hA hE hX [0, 14] rfl rfl [6] rfl
  have hF_4 := va_free (wc := [(h0, .inr (6, [.ref hu, .ref hs, .ref hc, .ref hp, .ref hg, .int 0, .int 0, .int 0, .int 0, .int 0])), (qo, .inl (cJ, 1, .inr (.inl (fun _ => 0))))]) hD hS hA [0, 14] rfl
  refine vx_calli (vx_runSX (As := [.ref h0, .int a_2, .ref qo]) (rest := []) ⟨hx, hb, hml, hown, hts⟩ (f_L_left l hst D h0 hu hs hc hp hg 0 0 a_2 qo (fun _ => 0) cJ _ ) (z_cSW 3 hE zw_616 zw_617 zw_90 zw_618 rfl rfl rfl (by decide +kernel) ⟨(Nat.le_of_ble_eq_true rfl), (Nat.le_of_ble_eq_true rfl)⟩) ⟨hb_4, hc_4⟩ rfl rfl hl.1 rfl (lv_room (Nat.le_of_ble_eq_true rfl)) dL_law_631 ⟨(Nat.le_of_ble_eq_true rfl), (Nat.le_of_ble_eq_true rfl)⟩) hS (fun q _ h => hF_4 q h) hF_4 (fun q _ h => hF_4 q h) (fun E_4 ce_4 q9_4 u_4 t_4 H1 locs ht_4 hvm_4 hw_4 hB_4 hz_4 hk_4 hS1 hce_4 hcv_4 hcl_4 => ?_) (fun r_4 u_4 t_4 H1 locs ht_4 hvm_4 hw_4 hB_4 hz_4 hk_4 hS1 => ?_)
  · exact hw_4.elim
  · obtain ⟨hP, hK, hD⟩ := z_back (wc := [(h0, .inr (6, [.ref hu, .ref hs, .ref hc, .ref hp, .ref hg, .int 0, .int 0, .int 0, .int 0, .int 0])), (qo, .inl (cJ, 1, .inr (.inl (fun _ => 0))))]) (wr := [(hu, .inl (cU, 10, .inr (.inr (.inr (.inr fu))))), (u0, .inr (5, [.ref ul, .int 0, .int 0, .int 45, .int 0, .int 0, .int (-1)])), (hc, .inl (cC, 4, .inr (.inr (.inr (.inr fc))))), (w0, .inr (2, [.int 100, .int (-1)])), (hp, .inl (cP, 7, .inl fp)), (hg, .inr (3, [.ref go, .ref gs, .ref ge, .ref gb, .int 0, .int 0, .int 0, .int 0])), (gs, .inl (cS, 10, .inl (fun _ => 0))), (gb, .inl (cB, 10, .inl (fun _ => 0))), (m0, .inr (10, [.int 0, .ref qu, .ref qs, .ref qc, .ref qp, .int 0, .int (-1), .int 0, .null])), (qu, .inr (1, [.int 0, .ref (D.2 50 0), .int 0])), (qs, .inr (1, [.int 0, .ref (D.2 50 0), .int 0])), (qc, .inr (1, [.int 0, .ref (D.2 50 0), .int 0])), (qp, .inl (cM, 7, .inl fm)), (qd, .inl (cD, 1, .inr (.inr (.inr (.inl (fun _ => 0))))))]) (w1 := [(h0, .inr (6, [.ref hu, .ref hs, .ref hc, .ref hp, .ref hg, .int 0, .int 0, .int 0, .int 0, .int 0])), (qo, .inl (cJ, 1, .inr (.inl (fun _ => 0))))]) (tr := [(cU, .object RX3), (cC, .object RX0), (cP, .int), (cS, .int), (cB, .int), (cM, .int), (cD, .double)]) hP hK hD [0, 14] [1, 2, 3, 4, 5, 6, 7, 8, 9, 10, 11, 12, 13, 15] rfl rfl rfl (by decide) ht_4 hvm_4 hk_4 hF_4 [0, 1, 2, 3, 4, 5, 7] rfl hB_4
    have hS := hS1
    have hP : va_P D vwCl [(hu, .inl (cU, 10, .inr (.inr (.inr (.inr fu))))), (u0, .inr (5, [.ref ul, .int 0, .int 0, .int 45, .int 0, .int 0, .int (-1)])), (hc, .inl (cC, 4, .inr (.inr (.inr (.inr fc))))), (w0, .inr (2, [.int 100, .int (-1)])), (hp, .inl (cP, 7, .inl fp)), (hg, .inr (3, [.ref go, .ref gs, .ref ge, .ref gb, .int 0, .int 0, .int 0, .int 0])), (gs, .inl (cS, 10, .inl (fun _ => 0))), (gb, .inl (cB, 10, .inl (fun _ => 0))), (m0, .inr (10, [.int 0, .ref qu, .ref qs, .ref qc, .ref qp, .int 0, .int (-1), .int 0, .null])), (qu, .inr (1, [.int 0, .ref (D.2 50 0), .int 0])), (qs, .inr (1, [.int 0, .ref (D.2 50 0), .int 0])), (qc, .inr (1, [.int 0, .ref (D.2 50 0), .int 0])), (qp, .inl (cM, 7, .inl fm)), (qd, .inl (cD, 1, .inr (.inr (.inr (.inl (fun _ => 0)))))), (h0, .inr (6, [.ref hu, .ref hs, .ref hc, .ref hp, .ref hg, .int 0, .int 0, .int 0, .int 0, .int 0])), (qo, .inl (cJ, 1, .inr (.inl (fun _ => 0))))] H1 := hP
    have hD : va_D A [(hu, .inl (cU, 10, .inr (.inr (.inr (.inr fu))))), (u0, .inr (5, [.ref ul, .int 0, .int 0, .int 45, .int 0, .int 0, .int (-1)])), (hc, .inl (cC, 4, .inr (.inr (.inr (.inr fc))))), (w0, .inr (2, [.int 100, .int (-1)])), (hp, .inl (cP, 7, .inl fp)), (hg, .inr (3, [.ref go, .ref gs, .ref ge, .ref gb, .int 0, .int 0, .int 0, .int 0])), (gs, .inl (cS, 10, .inl (fun _ => 0))), (gb, .inl (cB, 10, .inl (fun _ => 0))), (m0, .inr (10, [.int 0, .ref qu, .ref qs, .ref qc, .ref qp, .int 0, .int (-1), .int 0, .null])), (qu, .inr (1, [.int 0, .ref (D.2 50 0), .int 0])), (qs, .inr (1, [.int 0, .ref (D.2 50 0), .int 0])), (qc, .inr (1, [.int 0, .ref (D.2 50 0), .int 0])), (qp, .inl (cM, 7, .inl fm)), (qd, .inl (cD, 1, .inr (.inr (.inr (.inl (fun _ => 0)))))), (h0, .inr (6, [.ref hu, .ref hs, .ref hc, .ref hp, .ref hg, .int 0, .int 0, .int 0, .int 0, .int 0])), (qo, .inl (cJ, 1, .inr (.inl (fun _ => 0))))] := hD
    have hK : va_K D vwCl [(cU, .object RX3), (cC, .object RX0), (cP, .int), (cS, .int), (cB, .int), (cM, .int), (cD, .double), (cJ, .long)] s := hK
    clear hS1
    obtain rfl : r_4 = 1 := hw_4
    refine lv_istore (lv' := [(6, .int 1), (5, .int 0), (4, .ref qd), (3, .ref qo), (2, .ref m0), (1, .ref h0), (0, .ref b)]) hx hb dL_law_634 hl (by decide) rfl (fun ls hl => ?_)
    refine lv_aload_n hx hb dL_law_636 rfl (lv_at hl 4 rfl) ?_
    refine lv_aload_n hx hb dL_law_637 rfl (lv_at hl 6 rfl) ?_
    refine lv_iload hx hb dL_law_638 (lv_at hl 1 rfl) ?_
    refine lv_iconst (v := 1) hx hb dL_law_640 (by decide) ?_
    refine lv_iadd hx hb dL_law_641 ?_
    refine lv_topi (fun x_5 ex_5 => ?_)
    obtain rfl : x_5 = 1 := ex_5.trans (by first | rfl | decide | simp)
    refine va_sld (i := 1) hx hb hXs hbl hbA hS (by rw [hL7]; unfold vp_in; decide) dL_law_642 ?_
    refine lv_topi (fun a_6 ea_6 => ?_)
    obtain rfl : a_2 = a_6 := ea_2.trans ea_6.symm
    obtain ⟨hb_7, hc_7⟩ := z_call (wc := [(m0, .inr (10, [.int 0, .ref qu, .ref qs, .ref qc, .ref qp, .int 0, .int (-1), .int 0, .null])), (qu, .inr (1, [.int 0, .ref (D.2 50 0), .int 0]))]) (tc := []) ([.ref m0, .int a_2]) hP hK hD hS hA hE hX [8, 9] rfl rfl [] rfl
    have hF_7 := va_free (wc := [(m0, .inr (10, [.int 0, .ref qu, .ref qs, .ref qc, .ref qp, .int 0, .int (-1), .int 0, .null])), (qu, .inr (1, [.int 0, .ref (D.2 50 0), .int 0]))]) hD hS hA [8, 9] rfl
    refine va_calli (va_runV (As := [.int a_2]) (rest := []) ⟨hx, hb, hml, hown, hts⟩ (f_X8_left l D m0 qu qs qc qp 0 (D.2 50 0) a_2 _ ) (z_cV 1 hE zw_1334 zw_1335 zw_1336 zw_96 zw_1337 rfl rfl rfl (by decide +kernel) ⟨(Nat.le_of_ble_eq_true rfl), (Nat.le_of_ble_eq_true rfl)⟩) ⟨hb_7, va_recv hK hP (ci := 10) (q0 := 8) rfl rfl, hc_7⟩ rfl rfl hl.1 rfl (lv_room (Nat.le_of_ble_eq_true rfl)) dL_law_643 ⟨(Nat.le_of_ble_eq_true rfl), (Nat.le_of_ble_eq_true rfl)⟩) hS (fun q _ h => hF_7 q h) hF_7 (fun r_7 u_7 t_7 H1 locs ht_7 hvm_7 hw_7 hB_7 hz_7 hk_7 hS1 => ?_)
    obtain ⟨hP, hK, hD⟩ := z_back (wc := [(m0, .inr (10, [.int 0, .ref qu, .ref qs, .ref qc, .ref qp, .int 0, .int (-1), .int 0, .null])), (qu, .inr (1, [.int 0, .ref (D.2 50 0), .int 0]))]) (wr := [(hu, .inl (cU, 10, .inr (.inr (.inr (.inr fu))))), (u0, .inr (5, [.ref ul, .int 0, .int 0, .int 45, .int 0, .int 0, .int (-1)])), (hc, .inl (cC, 4, .inr (.inr (.inr (.inr fc))))), (w0, .inr (2, [.int 100, .int (-1)])), (hp, .inl (cP, 7, .inl fp)), (hg, .inr (3, [.ref go, .ref gs, .ref ge, .ref gb, .int 0, .int 0, .int 0, .int 0])), (gs, .inl (cS, 10, .inl (fun _ => 0))), (gb, .inl (cB, 10, .inl (fun _ => 0))), (qs, .inr (1, [.int 0, .ref (D.2 50 0), .int 0])), (qc, .inr (1, [.int 0, .ref (D.2 50 0), .int 0])), (qp, .inl (cM, 7, .inl fm)), (qd, .inl (cD, 1, .inr (.inr (.inr (.inl (fun _ => 0)))))), (h0, .inr (6, [.ref hu, .ref hs, .ref hc, .ref hp, .ref hg, .int 0, .int 0, .int 0, .int 0, .int 0])), (qo, .inl (cJ, 1, .inr (.inl (fun _ => 0))))]) (w1 := [(m0, .inr (10, [.int 1, .ref qu, .ref qs, .ref qc, .ref qp, .int 0, .int (-1), .int 0, .null])), (qu, .inr (1, [.int 0, .ref (D.2 50 0), .int 0]))]) (tr := [(cU, .object RX3), (cC, .object RX0), (cP, .int), (cS, .int), (cB, .int), (cM, .int), (cD, .double), (cJ, .long)]) hP hK hD [8, 9] [0, 1, 2, 3, 4, 5, 6, 7, 10, 11, 12, 13, 14, 15] rfl rfl rfl (by decide) ht_7 hvm_7 hk_7 hF_7 [0, 1, 2, 3, 4, 5, 6, 7] rfl hB_7
    have hS := hS1
    have hP : va_P D vwCl [(hu, .inl (cU, 10, .inr (.inr (.inr (.inr fu))))), (u0, .inr (5, [.ref ul, .int 0, .int 0, .int 45, .int 0, .int 0, .int (-1)])), (hc, .inl (cC, 4, .inr (.inr (.inr (.inr fc))))), (w0, .inr (2, [.int 100, .int (-1)])), (hp, .inl (cP, 7, .inl fp)), (hg, .inr (3, [.ref go, .ref gs, .ref ge, .ref gb, .int 0, .int 0, .int 0, .int 0])), (gs, .inl (cS, 10, .inl (fun _ => 0))), (gb, .inl (cB, 10, .inl (fun _ => 0))), (qs, .inr (1, [.int 0, .ref (D.2 50 0), .int 0])), (qc, .inr (1, [.int 0, .ref (D.2 50 0), .int 0])), (qp, .inl (cM, 7, .inl fm)), (qd, .inl (cD, 1, .inr (.inr (.inr (.inl (fun _ => 0)))))), (h0, .inr (6, [.ref hu, .ref hs, .ref hc, .ref hp, .ref hg, .int 0, .int 0, .int 0, .int 0, .int 0])), (qo, .inl (cJ, 1, .inr (.inl (fun _ => 0)))), (m0, .inr (10, [.int 1, .ref qu, .ref qs, .ref qc, .ref qp, .int 0, .int (-1), .int 0, .null])), (qu, .inr (1, [.int 0, .ref (D.2 50 0), .int 0]))] H1 := hP
    have hD : va_D A [(hu, .inl (cU, 10, .inr (.inr (.inr (.inr fu))))), (u0, .inr (5, [.ref ul, .int 0, .int 0, .int 45, .int 0, .int 0, .int (-1)])), (hc, .inl (cC, 4, .inr (.inr (.inr (.inr fc))))), (w0, .inr (2, [.int 100, .int (-1)])), (hp, .inl (cP, 7, .inl fp)), (hg, .inr (3, [.ref go, .ref gs, .ref ge, .ref gb, .int 0, .int 0, .int 0, .int 0])), (gs, .inl (cS, 10, .inl (fun _ => 0))), (gb, .inl (cB, 10, .inl (fun _ => 0))), (qs, .inr (1, [.int 0, .ref (D.2 50 0), .int 0])), (qc, .inr (1, [.int 0, .ref (D.2 50 0), .int 0])), (qp, .inl (cM, 7, .inl fm)), (qd, .inl (cD, 1, .inr (.inr (.inr (.inl (fun _ => 0)))))), (h0, .inr (6, [.ref hu, .ref hs, .ref hc, .ref hp, .ref hg, .int 0, .int 0, .int 0, .int 0, .int 0])), (qo, .inl (cJ, 1, .inr (.inl (fun _ => 0)))), (m0, .inr (10, [.int 1, .ref qu, .ref qs, .ref qc, .ref qp, .int 0, .int (-1), .int 0, .null])), (qu, .inr (1, [.int 0, .ref (D.2 50 0), .int 0]))] := hD
    have hK : va_K D vwCl [(cU, .object RX3), (cC, .object RX0), (cP, .int), (cS, .int), (cB, .int), (cM, .int), (cD, .double), (cJ, .long)] s := hK
    clear hS1
    refine lv_istore (lv' := [(7, .int r_7), (6, .int 1), (5, .int 0), (4, .ref qd), (3, .ref qo), (2, .ref m0), (1, .ref h0), (0, .ref b)]) hx hb dL_law_646 hl (by decide) rfl (fun ls hl => ?_)
    refine lv_aload_n hx hb dL_law_648 rfl (lv_at hl 5 rfl) ?_
    obtain ⟨hb_8, hc_8⟩ := z_call (wc := [(m0, .inr (10, [.int 1, .ref qu, .ref qs, .ref qc, .ref qp, .int 0, .int (-1), .int 0, .null]))]) (tc := []) ([.ref m0]) hP hK hD hS hA hE hX [14] rfl rfl [] rfl
    have hF_8 := va_free (wc := [(m0, .inr (10, [.int 1, .ref qu, .ref qs, .ref qc, .ref qp, .int 0, .int (-1), .int 0, .null]))]) hD hS hA [14] rfl
    refine va_calli (va_runV (As := []) (rest := []) ⟨hx, hb, hml, hown, hts⟩ (c_X8_thrown l D m0 qu qs qc qp 1 0 (-1) 0 .null _ ) (z_cV 0 hE zw_1108 zw_1109 zw_1110 zw_96 zw_1111 rfl rfl rfl (by decide +kernel) ⟨(Nat.le_of_ble_eq_true rfl), (Nat.le_of_ble_eq_true rfl)⟩) ⟨hb_8, va_recv hK hP (ci := 10) (q0 := 14) rfl rfl, hc_8⟩ rfl rfl hl.1 rfl (lv_room (Nat.le_of_ble_eq_true rfl)) dL_law_649 ⟨(Nat.le_of_ble_eq_true rfl), (Nat.le_of_ble_eq_true rfl)⟩) hS (fun q _ h => hF_8 q h) hF_8 (fun r_8 u_8 t_8 H1 locs ht_8 hvm_8 hw_8 hB_8 hz_8 hk_8 hS1 => ?_)
    obtain ⟨hP, hK, hD⟩ := z_back (wc := [(m0, .inr (10, [.int 1, .ref qu, .ref qs, .ref qc, .ref qp, .int 0, .int (-1), .int 0, .null]))]) (wr := [(hu, .inl (cU, 10, .inr (.inr (.inr (.inr fu))))), (u0, .inr (5, [.ref ul, .int 0, .int 0, .int 45, .int 0, .int 0, .int (-1)])), (hc, .inl (cC, 4, .inr (.inr (.inr (.inr fc))))), (w0, .inr (2, [.int 100, .int (-1)])), (hp, .inl (cP, 7, .inl fp)), (hg, .inr (3, [.ref go, .ref gs, .ref ge, .ref gb, .int 0, .int 0, .int 0, .int 0])), (gs, .inl (cS, 10, .inl (fun _ => 0))), (gb, .inl (cB, 10, .inl (fun _ => 0))), (qs, .inr (1, [.int 0, .ref (D.2 50 0), .int 0])), (qc, .inr (1, [.int 0, .ref (D.2 50 0), .int 0])), (qp, .inl (cM, 7, .inl fm)), (qd, .inl (cD, 1, .inr (.inr (.inr (.inl (fun _ => 0)))))), (h0, .inr (6, [.ref hu, .ref hs, .ref hc, .ref hp, .ref hg, .int 0, .int 0, .int 0, .int 0, .int 0])), (qo, .inl (cJ, 1, .inr (.inl (fun _ => 0)))), (qu, .inr (1, [.int 0, .ref (D.2 50 0), .int 0]))]) (w1 := [(m0, .inr (10, [.int 1, .ref qu, .ref qs, .ref qc, .ref qp, .int 0, .int (-1), .int 0, .null]))]) (tr := [(cU, .object RX3), (cC, .object RX0), (cP, .int), (cS, .int), (cB, .int), (cM, .int), (cD, .double), (cJ, .long)]) hP hK hD [14] [0, 1, 2, 3, 4, 5, 6, 7, 8, 9, 10, 11, 12, 13, 15] rfl rfl rfl (by decide) ht_8 hvm_8 hk_8 hF_8 [0, 1, 2, 3, 4, 5, 6, 7] rfl hB_8
    have hS := hS1
    have hP : va_P D vwCl [(hu, .inl (cU, 10, .inr (.inr (.inr (.inr fu))))), (u0, .inr (5, [.ref ul, .int 0, .int 0, .int 45, .int 0, .int 0, .int (-1)])), (hc, .inl (cC, 4, .inr (.inr (.inr (.inr fc))))), (w0, .inr (2, [.int 100, .int (-1)])), (hp, .inl (cP, 7, .inl fp)), (hg, .inr (3, [.ref go, .ref gs, .ref ge, .ref gb, .int 0, .int 0, .int 0, .int 0])), (gs, .inl (cS, 10, .inl (fun _ => 0))), (gb, .inl (cB, 10, .inl (fun _ => 0))), (qs, .inr (1, [.int 0, .ref (D.2 50 0), .int 0])), (qc, .inr (1, [.int 0, .ref (D.2 50 0), .int 0])), (qp, .inl (cM, 7, .inl fm)), (qd, .inl (cD, 1, .inr (.inr (.inr (.inl (fun _ => 0)))))), (h0, .inr (6, [.ref hu, .ref hs, .ref hc, .ref hp, .ref hg, .int 0, .int 0, .int 0, .int 0, .int 0])), (qo, .inl (cJ, 1, .inr (.inl (fun _ => 0)))), (qu, .inr (1, [.int 0, .ref (D.2 50 0), .int 0])), (m0, .inr (10, [.int 1, .ref qu, .ref qs, .ref qc, .ref qp, .int 0, .int (-1), .int 0, .null]))] H1 := hP
    have hD : va_D A [(hu, .inl (cU, 10, .inr (.inr (.inr (.inr fu))))), (u0, .inr (5, [.ref ul, .int 0, .int 0, .int 45, .int 0, .int 0, .int (-1)])), (hc, .inl (cC, 4, .inr (.inr (.inr (.inr fc))))), (w0, .inr (2, [.int 100, .int (-1)])), (hp, .inl (cP, 7, .inl fp)), (hg, .inr (3, [.ref go, .ref gs, .ref ge, .ref gb, .int 0, .int 0, .int 0, .int 0])), (gs, .inl (cS, 10, .inl (fun _ => 0))), (gb, .inl (cB, 10, .inl (fun _ => 0))), (qs, .inr (1, [.int 0, .ref (D.2 50 0), .int 0])), (qc, .inr (1, [.int 0, .ref (D.2 50 0), .int 0])), (qp, .inl (cM, 7, .inl fm)), (qd, .inl (cD, 1, .inr (.inr (.inr (.inl (fun _ => 0)))))), (h0, .inr (6, [.ref hu, .ref hs, .ref hc, .ref hp, .ref hg, .int 0, .int 0, .int 0, .int 0, .int 0])), (qo, .inl (cJ, 1, .inr (.inl (fun _ => 0)))), (qu, .inr (1, [.int 0, .ref (D.2 50 0), .int 0])), (m0, .inr (10, [.int 1, .ref qu, .ref qs, .ref qc, .ref qp, .int 0, .int (-1), .int 0, .null]))] := hD
    have hK : va_K D vwCl [(cU, .object RX3), (cC, .object RX0), (cP, .int), (cS, .int), (cB, .int), (cM, .int), (cD, .double), (cJ, .long)] s := hK
    clear hS1
    obtain rfl : r_8 = 1 := hw_8
    refine lv_iload hx hb dL_law_652 (lv_at hl 1 rfl) ?_
    refine lv_icmp_eq (tgt := 659) hx hb dL_law_654 (by decide) (fun c_9 => ?_) (fun c_9 => absurd (by decide) c_9)
    refine lv_iload hx hb dL_law_659 (lv_at hl 1 rfl) ?_
    refine lv_if_ne (tgt := 676) hx hb dL_law_661 (by decide) (fun c_10 => ?_) (fun c_10 => absurd c_10 (by decide))
    refine lv_goto (tgt := 2663) hx hb dL_law_676 (by decide) ?_
    exact law_end C0 hL7 hAF hbA hS (lv_sub (l' := [(5, .int 0), (0, .ref b)]) hl [2, 7] rfl) (Nat.le_of_ble_eq_true rfl) (Nat.le_of_ble_eq_true rfl)
theorem dL_law_679 : decode cL_law 679 = .ok (.aload_n 1, 1) := by decide +kernel
theorem dL_law_680 : decode cL_law 680 = .ok (.aload_n 0, 1) := by decide +kernel
theorem dL_law_681 : decode cL_law 681 = .ok (.iload 5, 2) := by decide +kernel
theorem dL_law_683 : decode cL_law 683 = .ok (.iconst 1, 1) := by decide +kernel
theorem dL_law_684 : decode cL_law 684 = .ok (.iadd, 1) := by decide +kernel
theorem dL_law_685 : decode cL_law 685 = .ok (.iaload, 1) := by decide +kernel
theorem dL_law_686 : decode cL_law 686 = .ok (.aload_n 3, 1) := by decide +kernel
theorem dL_law_687 : decode cL_law 687 = .ok (.invokestatic 178, 3) := by decide +kernel
theorem zw_623 : Cond.methodLink RL 178 yL_whyNot ∈ z_Ts := z_m 623 (by decide +kernel) (by decide +kernel)
theorem zw_624 : Cond.static yL_whyNot ∈ z_Ts := z_m 624 (by decide +kernel) (by decide +kernel)
theorem zw_625 : Cond.codeWith yL_whyNot cL_whyNot 4 (some .int) [(0, 9, 12, 23), (0, 9, 15, 39)] ∈ z_Ts := z_m 625 (by decide +kernel) (by decide +kernel)
theorem dL_law_690 : decode cL_law 690 = .ok (.istore 6, 2) := by decide +kernel
theorem dL_law_692 : decode cL_law 692 = .ok (.aload_n 2, 1) := by decide +kernel
theorem dL_law_693 : decode cL_law 693 = .ok (.aload_n 0, 1) := by decide +kernel
theorem dL_law_694 : decode cL_law 694 = .ok (.iload 5, 2) := by decide +kernel
theorem dL_law_696 : decode cL_law 696 = .ok (.iconst 1, 1) := by decide +kernel
theorem dL_law_697 : decode cL_law 697 = .ok (.iadd, 1) := by decide +kernel
theorem dL_law_698 : decode cL_law 698 = .ok (.iaload, 1) := by decide +kernel
theorem dL_law_699 : decode cL_law 699 = .ok (.invokevirtual 180, 3) := by decide +kernel
theorem zw_1338 : Cond.methodLink RL 180 yX8_whyNot ∈ z_Ts := z_m 1338 (by decide +kernel) (by decide +kernel)
theorem zw_1339 : Cond.instanceMethod yX8_whyNot ∈ z_Ts := z_m 1339 (by decide +kernel) (by decide +kernel)
theorem zw_1340 : Cond.selects RX8 yX8_whyNot yX8_whyNot ∈ z_Ts := z_m 1340 (by decide +kernel) (by decide +kernel)
theorem zw_1341 : Cond.code yX8_whyNot cX8_whyNot 2 (some .char) ∈ z_Ts := z_m 1341 (by decide +kernel) (by decide +kernel)
theorem dL_law_702 : decode cL_law 702 = .ok (.istore 7, 2) := by decide +kernel
theorem dL_law_704 : decode cL_law 704 = .ok (.aload_n 2, 1) := by decide +kernel
theorem dL_law_705 : decode cL_law 705 = .ok (.invokevirtual 156, 3) := by decide +kernel
theorem dL_law_708 : decode cL_law 708 = .ok (.iload 6, 2) := by decide +kernel
theorem dL_law_710 : decode cL_law 710 = .ok (.if_icmp .eq 5, 3) := by decide +kernel
theorem dL_law_715 : decode cL_law 715 = .ok (.iload 6, 2) := by decide +kernel
theorem dL_law_717 : decode cL_law 717 = .ok (.ifCond .ne 15, 3) := by decide +kernel
theorem dL_law_732 : decode cL_law 732 = .ok (.goto 1931, 3) := by decide +kernel
set_option maxHeartbeats 4000000 in
set_option maxRecDepth 100000 in
theorem law_7 {p : Program} {l : Launch} {e : Env} {s : State} {m : MethodId} {below : List Frame} {meth : Method} {c : Code} {b L : Nat} {xs : Nat → Int32} {D : va_G} {A : Nat → Prop} (C0 : lw_At p s m meth c b L xs) (hL7 : L = 7) (hst : l.stackTraces = false) (hE : z_E s) (hX : z_X D A s s.heap) (hA : ∀ q, s.heap.size ≤ q → A q) (hbA : ¬ A b) (hAF : ∀ q, A q → s.heap.size ≤ q) {h0 hu hs hc hp hg u0 ul w0 go gs ge gb m0 qu qs qc qp qo qd : Nat} {cU cC cP cS cB cM cJ cD : ClassId} {fu fc : Nat → Option Nat} {fp fm : Nat → Int32} (hfu : fu 0 = some u0) (hfc : fc 0 = some w0) (hfp : ∀ j : Nat, j < 7 → fp j = 100) (hfm : ∀ j : Nat, j < 7 → fm j = 100) {H : Heap} {locs : List Loc} (hK : va_K D vwCl [(cU, .object RX3), (cC, .object RX0), (cP, .int), (cS, .int), (cB, .int), (cM, .int), (cJ, .long), (cD, .double)] s) (hP : va_P D vwCl [(h0, .inr (6, [.ref hu, .ref hs, .ref hc, .ref hp, .ref hg, .int 0, .int 0, .int 0, .int 0, .int 0])), (hu, .inl (cU, 10, .inr (.inr (.inr (.inr fu))))), (u0, .inr (5, [.ref ul, .int 0, .int 0, .int 45, .int 0, .int 0, .int (-1)])), (hc, .inl (cC, 4, .inr (.inr (.inr (.inr fc))))), (w0, .inr (2, [.int 100, .int (-1)])), (hp, .inl (cP, 7, .inl fp)), (hg, .inr (3, [.ref go, .ref gs, .ref ge, .ref gb, .int 0, .int 0, .int 0, .int 0])), (gs, .inl (cS, 10, .inl (fun _ => 0))), (gb, .inl (cB, 10, .inl (fun _ => 0))), (m0, .inr (10, [.int 0, .ref qu, .ref qs, .ref qc, .ref qp, .int 0, .int (-1), .int 0, .null])), (qu, .inr (1, [.int 0, .ref (D.2 50 0), .int 0])), (qs, .inr (1, [.int 0, .ref (D.2 50 0), .int 0])), (qc, .inr (1, [.int 0, .ref (D.2 50 0), .int 0])), (qp, .inl (cM, 7, .inl fm)), (qo, .inl (cJ, 1, .inr (.inl (fun _ => 0)))), (qd, .inl (cD, 1, .inr (.inr (.inr (.inl (fun _ => 0))))))] H) (hD : va_D A [(h0, .inr (6, [.ref hu, .ref hs, .ref hc, .ref hp, .ref hg, .int 0, .int 0, .int 0, .int 0, .int 0])), (hu, .inl (cU, 10, .inr (.inr (.inr (.inr fu))))), (u0, .inr (5, [.ref ul, .int 0, .int 0, .int 45, .int 0, .int 0, .int (-1)])), (hc, .inl (cC, 4, .inr (.inr (.inr (.inr fc))))), (w0, .inr (2, [.int 100, .int (-1)])), (hp, .inl (cP, 7, .inl fp)), (hg, .inr (3, [.ref go, .ref gs, .ref ge, .ref gb, .int 0, .int 0, .int 0, .int 0])), (gs, .inl (cS, 10, .inl (fun _ => 0))), (gb, .inl (cB, 10, .inl (fun _ => 0))), (m0, .inr (10, [.int 0, .ref qu, .ref qs, .ref qc, .ref qp, .int 0, .int (-1), .int 0, .null])), (qu, .inr (1, [.int 0, .ref (D.2 50 0), .int 0])), (qs, .inr (1, [.int 0, .ref (D.2 50 0), .int 0])), (qc, .inr (1, [.int 0, .ref (D.2 50 0), .int 0])), (qp, .inl (cM, 7, .inl fm)), (qo, .inl (cJ, 1, .inr (.inl (fun _ => 0)))), (qd, .inl (cD, 1, .inr (.inr (.inr (.inl (fun _ => 0))))))]) (hS : va_S A s.heap H locs) {ls : Array Slot} (hl : lv_has ls 9 [(5, .int 0), (4, .ref qd), (3, .ref qo), (2, .ref m0), (1, .ref h0), (0, .ref b)]) : W p l e room_1 s m #[Value.ref b] below meth c H locs 62 437 (lw_Z below #[Value.ref b] s) (F0 m 679 ls []) := by
  obtain ⟨hx, hb, hr, hml, hown, hts0, hXs, hbl, hlocks, hgv⟩ := id C0
  have hts := z_E.ts (args := #[Value.ref b]) hE
  have hown : s.vm.findClass RL = some m.cls := hown
  refine lv_aload_n hx hb dL_law_679 rfl (lv_at hl 4 rfl) ?_
  refine lv_aload_n hx hb dL_law_680 rfl (lv_at hl 5 rfl) ?_
  refine lv_iload hx hb dL_law_681 (lv_at hl 0 rfl) ?_
  refine lv_iconst (v := 1) hx hb dL_law_683 (by decide) ?_
  refine lv_iadd hx hb dL_law_684 ?_
  refine lv_topi (fun x_1 ex_1 => ?_)
  obtain rfl : x_1 = 1 := ex_1.trans (by first | rfl | decide | simp)
  refine va_sld (i := 1) hx hb hXs hbl hbA hS (by rw [hL7]; unfold vp_in; decide) dL_law_685 ?_
  refine lv_topi (fun a_2 ea_2 => ?_)
  refine lv_aload_n hx hb dL_law_686 rfl (lv_at hl 2 rfl) ?_
  obtain ⟨hb_4, hc_4⟩ := z_call (wc := [(h0, .inr (6, [.ref hu, .ref hs, .ref hc, .ref hp, .ref hg, .int 0, .int 0, .int 0, .int 0, .int 0])), (qo, .inl (cJ, 1, .inr (.inl (fun _ => 0))))]) (tc := [(cJ, .long)]) ([.ref h0, .int a_2, .ref qo]) hP hK hD hS hA hE hX [0, 14] rfl rfl [6] rfl
  have hF_4 := va_free (wc := [(h0, .inr (6, [.ref hu, .ref hs, .ref hc, .ref hp, .ref hg, .int 0, .int 0, .int 0, .int 0, .int 0])), (qo, .inl (cJ, 1, .inr (.inl (fun _ => 0))))]) hD hS hA [0, 14] rfl
  refine vx_calli (vx_runSX (As := [.ref h0, .int a_2, .ref qo]) (rest := []) ⟨hx, hb, hml, hown, hts⟩ (f_L_whyNot l hst D h0 hu hs hc hp hg 0 0 a_2 qo (fun _ => 0) cJ _ ) (z_cSW 3 hE zw_623 zw_624 zw_90 zw_625 rfl rfl rfl (by decide +kernel) ⟨(Nat.le_of_ble_eq_true rfl), (Nat.le_of_ble_eq_true rfl)⟩) ⟨hb_4, hc_4⟩ rfl rfl hl.1 rfl (lv_room (Nat.le_of_ble_eq_true rfl)) dL_law_687 ⟨(Nat.le_of_ble_eq_true rfl), (Nat.le_of_ble_eq_true rfl)⟩) hS (fun q _ h => hF_4 q h) hF_4 (fun q _ h => hF_4 q h) (fun E_4 ce_4 q9_4 u_4 t_4 H1 locs ht_4 hvm_4 hw_4 hB_4 hz_4 hk_4 hS1 hce_4 hcv_4 hcl_4 => ?_) (fun r_4 u_4 t_4 H1 locs ht_4 hvm_4 hw_4 hB_4 hz_4 hk_4 hS1 => ?_)
  · exact hw_4.elim
  · obtain ⟨hP, hK, hD⟩ := z_back (wc := [(h0, .inr (6, [.ref hu, .ref hs, .ref hc, .ref hp, .ref hg, .int 0, .int 0, .int 0, .int 0, .int 0])), (qo, .inl (cJ, 1, .inr (.inl (fun _ => 0))))]) (wr := [(hu, .inl (cU, 10, .inr (.inr (.inr (.inr fu))))), (u0, .inr (5, [.ref ul, .int 0, .int 0, .int 45, .int 0, .int 0, .int (-1)])), (hc, .inl (cC, 4, .inr (.inr (.inr (.inr fc))))), (w0, .inr (2, [.int 100, .int (-1)])), (hp, .inl (cP, 7, .inl fp)), (hg, .inr (3, [.ref go, .ref gs, .ref ge, .ref gb, .int 0, .int 0, .int 0, .int 0])), (gs, .inl (cS, 10, .inl (fun _ => 0))), (gb, .inl (cB, 10, .inl (fun _ => 0))), (m0, .inr (10, [.int 0, .ref qu, .ref qs, .ref qc, .ref qp, .int 0, .int (-1), .int 0, .null])), (qu, .inr (1, [.int 0, .ref (D.2 50 0), .int 0])), (qs, .inr (1, [.int 0, .ref (D.2 50 0), .int 0])), (qc, .inr (1, [.int 0, .ref (D.2 50 0), .int 0])), (qp, .inl (cM, 7, .inl fm)), (qd, .inl (cD, 1, .inr (.inr (.inr (.inl (fun _ => 0))))))]) (w1 := [(h0, .inr (6, [.ref hu, .ref hs, .ref hc, .ref hp, .ref hg, .int 0, .int 0, .int 0, .int 0, .int 0])), (qo, .inl (cJ, 1, .inr (.inl (fun _ => 0))))]) (tr := [(cU, .object RX3), (cC, .object RX0), (cP, .int), (cS, .int), (cB, .int), (cM, .int), (cD, .double)]) hP hK hD [0, 14] [1, 2, 3, 4, 5, 6, 7, 8, 9, 10, 11, 12, 13, 15] rfl rfl rfl (by decide) ht_4 hvm_4 hk_4 hF_4 [0, 1, 2, 3, 4, 5, 7] rfl hB_4
    have hS := hS1
    have hP : va_P D vwCl [(hu, .inl (cU, 10, .inr (.inr (.inr (.inr fu))))), (u0, .inr (5, [.ref ul, .int 0, .int 0, .int 45, .int 0, .int 0, .int (-1)])), (hc, .inl (cC, 4, .inr (.inr (.inr (.inr fc))))), (w0, .inr (2, [.int 100, .int (-1)])), (hp, .inl (cP, 7, .inl fp)), (hg, .inr (3, [.ref go, .ref gs, .ref ge, .ref gb, .int 0, .int 0, .int 0, .int 0])), (gs, .inl (cS, 10, .inl (fun _ => 0))), (gb, .inl (cB, 10, .inl (fun _ => 0))), (m0, .inr (10, [.int 0, .ref qu, .ref qs, .ref qc, .ref qp, .int 0, .int (-1), .int 0, .null])), (qu, .inr (1, [.int 0, .ref (D.2 50 0), .int 0])), (qs, .inr (1, [.int 0, .ref (D.2 50 0), .int 0])), (qc, .inr (1, [.int 0, .ref (D.2 50 0), .int 0])), (qp, .inl (cM, 7, .inl fm)), (qd, .inl (cD, 1, .inr (.inr (.inr (.inl (fun _ => 0)))))), (h0, .inr (6, [.ref hu, .ref hs, .ref hc, .ref hp, .ref hg, .int 0, .int 0, .int 0, .int 0, .int 0])), (qo, .inl (cJ, 1, .inr (.inl (fun _ => 0))))] H1 := hP
    have hD : va_D A [(hu, .inl (cU, 10, .inr (.inr (.inr (.inr fu))))), (u0, .inr (5, [.ref ul, .int 0, .int 0, .int 45, .int 0, .int 0, .int (-1)])), (hc, .inl (cC, 4, .inr (.inr (.inr (.inr fc))))), (w0, .inr (2, [.int 100, .int (-1)])), (hp, .inl (cP, 7, .inl fp)), (hg, .inr (3, [.ref go, .ref gs, .ref ge, .ref gb, .int 0, .int 0, .int 0, .int 0])), (gs, .inl (cS, 10, .inl (fun _ => 0))), (gb, .inl (cB, 10, .inl (fun _ => 0))), (m0, .inr (10, [.int 0, .ref qu, .ref qs, .ref qc, .ref qp, .int 0, .int (-1), .int 0, .null])), (qu, .inr (1, [.int 0, .ref (D.2 50 0), .int 0])), (qs, .inr (1, [.int 0, .ref (D.2 50 0), .int 0])), (qc, .inr (1, [.int 0, .ref (D.2 50 0), .int 0])), (qp, .inl (cM, 7, .inl fm)), (qd, .inl (cD, 1, .inr (.inr (.inr (.inl (fun _ => 0)))))), (h0, .inr (6, [.ref hu, .ref hs, .ref hc, .ref hp, .ref hg, .int 0, .int 0, .int 0, .int 0, .int 0])), (qo, .inl (cJ, 1, .inr (.inl (fun _ => 0))))] := hD
    have hK : va_K D vwCl [(cU, .object RX3), (cC, .object RX0), (cP, .int), (cS, .int), (cB, .int), (cM, .int), (cD, .double), (cJ, .long)] s := hK
    clear hS1
    obtain rfl : r_4 = 1 := hw_4
    refine lv_istore (lv' := [(6, .int 1), (5, .int 0), (4, .ref qd), (3, .ref qo), (2, .ref m0), (1, .ref h0), (0, .ref b)]) hx hb dL_law_690 hl (by decide) rfl (fun ls hl => ?_)
    refine lv_aload_n hx hb dL_law_692 rfl (lv_at hl 4 rfl) ?_
    refine lv_aload_n hx hb dL_law_693 rfl (lv_at hl 6 rfl) ?_
    refine lv_iload hx hb dL_law_694 (lv_at hl 1 rfl) ?_
    refine lv_iconst (v := 1) hx hb dL_law_696 (by decide) ?_
    refine lv_iadd hx hb dL_law_697 ?_
    refine lv_topi (fun x_5 ex_5 => ?_)
    obtain rfl : x_5 = 1 := ex_5.trans (by first | rfl | decide | simp)
    refine va_sld (i := 1) hx hb hXs hbl hbA hS (by rw [hL7]; unfold vp_in; decide) dL_law_698 ?_
    refine lv_topi (fun a_6 ea_6 => ?_)
    obtain rfl : a_2 = a_6 := ea_2.trans ea_6.symm
    obtain ⟨hb_7, hc_7⟩ := z_call (wc := [(m0, .inr (10, [.int 0, .ref qu, .ref qs, .ref qc, .ref qp, .int 0, .int (-1), .int 0, .null])), (qu, .inr (1, [.int 0, .ref (D.2 50 0), .int 0]))]) (tc := []) ([.ref m0, .int a_2]) hP hK hD hS hA hE hX [8, 9] rfl rfl [] rfl
    have hF_7 := va_free (wc := [(m0, .inr (10, [.int 0, .ref qu, .ref qs, .ref qc, .ref qp, .int 0, .int (-1), .int 0, .null])), (qu, .inr (1, [.int 0, .ref (D.2 50 0), .int 0]))]) hD hS hA [8, 9] rfl
    refine va_calli (va_runV (As := [.int a_2]) (rest := []) ⟨hx, hb, hml, hown, hts⟩ (f_X8_whyNot l D m0 qu qs qc qp 0 (D.2 50 0) a_2 _ ) (z_cV 1 hE zw_1338 zw_1339 zw_1340 zw_96 zw_1341 rfl rfl rfl (by decide +kernel) ⟨(Nat.le_of_ble_eq_true rfl), (Nat.le_of_ble_eq_true rfl)⟩) ⟨hb_7, va_recv hK hP (ci := 10) (q0 := 8) rfl rfl, hc_7⟩ rfl rfl hl.1 rfl (lv_room (Nat.le_of_ble_eq_true rfl)) dL_law_699 ⟨(Nat.le_of_ble_eq_true rfl), (Nat.le_of_ble_eq_true rfl)⟩) hS (fun q _ h => hF_7 q h) hF_7 (fun r_7 u_7 t_7 H1 locs ht_7 hvm_7 hw_7 hB_7 hz_7 hk_7 hS1 => ?_)
    obtain ⟨hP, hK, hD⟩ := z_back (wc := [(m0, .inr (10, [.int 0, .ref qu, .ref qs, .ref qc, .ref qp, .int 0, .int (-1), .int 0, .null])), (qu, .inr (1, [.int 0, .ref (D.2 50 0), .int 0]))]) (wr := [(hu, .inl (cU, 10, .inr (.inr (.inr (.inr fu))))), (u0, .inr (5, [.ref ul, .int 0, .int 0, .int 45, .int 0, .int 0, .int (-1)])), (hc, .inl (cC, 4, .inr (.inr (.inr (.inr fc))))), (w0, .inr (2, [.int 100, .int (-1)])), (hp, .inl (cP, 7, .inl fp)), (hg, .inr (3, [.ref go, .ref gs, .ref ge, .ref gb, .int 0, .int 0, .int 0, .int 0])), (gs, .inl (cS, 10, .inl (fun _ => 0))), (gb, .inl (cB, 10, .inl (fun _ => 0))), (qs, .inr (1, [.int 0, .ref (D.2 50 0), .int 0])), (qc, .inr (1, [.int 0, .ref (D.2 50 0), .int 0])), (qp, .inl (cM, 7, .inl fm)), (qd, .inl (cD, 1, .inr (.inr (.inr (.inl (fun _ => 0)))))), (h0, .inr (6, [.ref hu, .ref hs, .ref hc, .ref hp, .ref hg, .int 0, .int 0, .int 0, .int 0, .int 0])), (qo, .inl (cJ, 1, .inr (.inl (fun _ => 0))))]) (w1 := [(m0, .inr (10, [.int 1, .ref qu, .ref qs, .ref qc, .ref qp, .int 0, .int (-1), .int 0, .null])), (qu, .inr (1, [.int 0, .ref (D.2 50 0), .int 0]))]) (tr := [(cU, .object RX3), (cC, .object RX0), (cP, .int), (cS, .int), (cB, .int), (cM, .int), (cD, .double), (cJ, .long)]) hP hK hD [8, 9] [0, 1, 2, 3, 4, 5, 6, 7, 10, 11, 12, 13, 14, 15] rfl rfl rfl (by decide) ht_7 hvm_7 hk_7 hF_7 [0, 1, 2, 3, 4, 5, 6, 7] rfl hB_7
    have hS := hS1
    have hP : va_P D vwCl [(hu, .inl (cU, 10, .inr (.inr (.inr (.inr fu))))), (u0, .inr (5, [.ref ul, .int 0, .int 0, .int 45, .int 0, .int 0, .int (-1)])), (hc, .inl (cC, 4, .inr (.inr (.inr (.inr fc))))), (w0, .inr (2, [.int 100, .int (-1)])), (hp, .inl (cP, 7, .inl fp)), (hg, .inr (3, [.ref go, .ref gs, .ref ge, .ref gb, .int 0, .int 0, .int 0, .int 0])), (gs, .inl (cS, 10, .inl (fun _ => 0))), (gb, .inl (cB, 10, .inl (fun _ => 0))), (qs, .inr (1, [.int 0, .ref (D.2 50 0), .int 0])), (qc, .inr (1, [.int 0, .ref (D.2 50 0), .int 0])), (qp, .inl (cM, 7, .inl fm)), (qd, .inl (cD, 1, .inr (.inr (.inr (.inl (fun _ => 0)))))), (h0, .inr (6, [.ref hu, .ref hs, .ref hc, .ref hp, .ref hg, .int 0, .int 0, .int 0, .int 0, .int 0])), (qo, .inl (cJ, 1, .inr (.inl (fun _ => 0)))), (m0, .inr (10, [.int 1, .ref qu, .ref qs, .ref qc, .ref qp, .int 0, .int (-1), .int 0, .null])), (qu, .inr (1, [.int 0, .ref (D.2 50 0), .int 0]))] H1 := hP
    have hD : va_D A [(hu, .inl (cU, 10, .inr (.inr (.inr (.inr fu))))), (u0, .inr (5, [.ref ul, .int 0, .int 0, .int 45, .int 0, .int 0, .int (-1)])), (hc, .inl (cC, 4, .inr (.inr (.inr (.inr fc))))), (w0, .inr (2, [.int 100, .int (-1)])), (hp, .inl (cP, 7, .inl fp)), (hg, .inr (3, [.ref go, .ref gs, .ref ge, .ref gb, .int 0, .int 0, .int 0, .int 0])), (gs, .inl (cS, 10, .inl (fun _ => 0))), (gb, .inl (cB, 10, .inl (fun _ => 0))), (qs, .inr (1, [.int 0, .ref (D.2 50 0), .int 0])), (qc, .inr (1, [.int 0, .ref (D.2 50 0), .int 0])), (qp, .inl (cM, 7, .inl fm)), (qd, .inl (cD, 1, .inr (.inr (.inr (.inl (fun _ => 0)))))), (h0, .inr (6, [.ref hu, .ref hs, .ref hc, .ref hp, .ref hg, .int 0, .int 0, .int 0, .int 0, .int 0])), (qo, .inl (cJ, 1, .inr (.inl (fun _ => 0)))), (m0, .inr (10, [.int 1, .ref qu, .ref qs, .ref qc, .ref qp, .int 0, .int (-1), .int 0, .null])), (qu, .inr (1, [.int 0, .ref (D.2 50 0), .int 0]))] := hD
    have hK : va_K D vwCl [(cU, .object RX3), (cC, .object RX0), (cP, .int), (cS, .int), (cB, .int), (cM, .int), (cD, .double), (cJ, .long)] s := hK
    clear hS1
    refine lv_istore (lv' := [(7, .int r_7), (6, .int 1), (5, .int 0), (4, .ref qd), (3, .ref qo), (2, .ref m0), (1, .ref h0), (0, .ref b)]) hx hb dL_law_702 hl (by decide) rfl (fun ls hl => ?_)
    refine lv_aload_n hx hb dL_law_704 rfl (lv_at hl 5 rfl) ?_
    obtain ⟨hb_8, hc_8⟩ := z_call (wc := [(m0, .inr (10, [.int 1, .ref qu, .ref qs, .ref qc, .ref qp, .int 0, .int (-1), .int 0, .null]))]) (tc := []) ([.ref m0]) hP hK hD hS hA hE hX [14] rfl rfl [] rfl
    have hF_8 := va_free (wc := [(m0, .inr (10, [.int 1, .ref qu, .ref qs, .ref qc, .ref qp, .int 0, .int (-1), .int 0, .null]))]) hD hS hA [14] rfl
    refine va_calli (va_runV (As := []) (rest := []) ⟨hx, hb, hml, hown, hts⟩ (c_X8_thrown l D m0 qu qs qc qp 1 0 (-1) 0 .null _ ) (z_cV 0 hE zw_1108 zw_1109 zw_1110 zw_96 zw_1111 rfl rfl rfl (by decide +kernel) ⟨(Nat.le_of_ble_eq_true rfl), (Nat.le_of_ble_eq_true rfl)⟩) ⟨hb_8, va_recv hK hP (ci := 10) (q0 := 14) rfl rfl, hc_8⟩ rfl rfl hl.1 rfl (lv_room (Nat.le_of_ble_eq_true rfl)) dL_law_705 ⟨(Nat.le_of_ble_eq_true rfl), (Nat.le_of_ble_eq_true rfl)⟩) hS (fun q _ h => hF_8 q h) hF_8 (fun r_8 u_8 t_8 H1 locs ht_8 hvm_8 hw_8 hB_8 hz_8 hk_8 hS1 => ?_)
    obtain ⟨hP, hK, hD⟩ := z_back (wc := [(m0, .inr (10, [.int 1, .ref qu, .ref qs, .ref qc, .ref qp, .int 0, .int (-1), .int 0, .null]))]) (wr := [(hu, .inl (cU, 10, .inr (.inr (.inr (.inr fu))))), (u0, .inr (5, [.ref ul, .int 0, .int 0, .int 45, .int 0, .int 0, .int (-1)])), (hc, .inl (cC, 4, .inr (.inr (.inr (.inr fc))))), (w0, .inr (2, [.int 100, .int (-1)])), (hp, .inl (cP, 7, .inl fp)), (hg, .inr (3, [.ref go, .ref gs, .ref ge, .ref gb, .int 0, .int 0, .int 0, .int 0])), (gs, .inl (cS, 10, .inl (fun _ => 0))), (gb, .inl (cB, 10, .inl (fun _ => 0))), (qs, .inr (1, [.int 0, .ref (D.2 50 0), .int 0])), (qc, .inr (1, [.int 0, .ref (D.2 50 0), .int 0])), (qp, .inl (cM, 7, .inl fm)), (qd, .inl (cD, 1, .inr (.inr (.inr (.inl (fun _ => 0)))))), (h0, .inr (6, [.ref hu, .ref hs, .ref hc, .ref hp, .ref hg, .int 0, .int 0, .int 0, .int 0, .int 0])), (qo, .inl (cJ, 1, .inr (.inl (fun _ => 0)))), (qu, .inr (1, [.int 0, .ref (D.2 50 0), .int 0]))]) (w1 := [(m0, .inr (10, [.int 1, .ref qu, .ref qs, .ref qc, .ref qp, .int 0, .int (-1), .int 0, .null]))]) (tr := [(cU, .object RX3), (cC, .object RX0), (cP, .int), (cS, .int), (cB, .int), (cM, .int), (cD, .double), (cJ, .long)]) hP hK hD [14] [0, 1, 2, 3, 4, 5, 6, 7, 8, 9, 10, 11, 12, 13, 15] rfl rfl rfl (by decide) ht_8 hvm_8 hk_8 hF_8 [0, 1, 2, 3, 4, 5, 6, 7] rfl hB_8
    have hS := hS1
    have hP : va_P D vwCl [(hu, .inl (cU, 10, .inr (.inr (.inr (.inr fu))))), (u0, .inr (5, [.ref ul, .int 0, .int 0, .int 45, .int 0, .int 0, .int (-1)])), (hc, .inl (cC, 4, .inr (.inr (.inr (.inr fc))))), (w0, .inr (2, [.int 100, .int (-1)])), (hp, .inl (cP, 7, .inl fp)), (hg, .inr (3, [.ref go, .ref gs, .ref ge, .ref gb, .int 0, .int 0, .int 0, .int 0])), (gs, .inl (cS, 10, .inl (fun _ => 0))), (gb, .inl (cB, 10, .inl (fun _ => 0))), (qs, .inr (1, [.int 0, .ref (D.2 50 0), .int 0])), (qc, .inr (1, [.int 0, .ref (D.2 50 0), .int 0])), (qp, .inl (cM, 7, .inl fm)), (qd, .inl (cD, 1, .inr (.inr (.inr (.inl (fun _ => 0)))))), (h0, .inr (6, [.ref hu, .ref hs, .ref hc, .ref hp, .ref hg, .int 0, .int 0, .int 0, .int 0, .int 0])), (qo, .inl (cJ, 1, .inr (.inl (fun _ => 0)))), (qu, .inr (1, [.int 0, .ref (D.2 50 0), .int 0])), (m0, .inr (10, [.int 1, .ref qu, .ref qs, .ref qc, .ref qp, .int 0, .int (-1), .int 0, .null]))] H1 := hP
    have hD : va_D A [(hu, .inl (cU, 10, .inr (.inr (.inr (.inr fu))))), (u0, .inr (5, [.ref ul, .int 0, .int 0, .int 45, .int 0, .int 0, .int (-1)])), (hc, .inl (cC, 4, .inr (.inr (.inr (.inr fc))))), (w0, .inr (2, [.int 100, .int (-1)])), (hp, .inl (cP, 7, .inl fp)), (hg, .inr (3, [.ref go, .ref gs, .ref ge, .ref gb, .int 0, .int 0, .int 0, .int 0])), (gs, .inl (cS, 10, .inl (fun _ => 0))), (gb, .inl (cB, 10, .inl (fun _ => 0))), (qs, .inr (1, [.int 0, .ref (D.2 50 0), .int 0])), (qc, .inr (1, [.int 0, .ref (D.2 50 0), .int 0])), (qp, .inl (cM, 7, .inl fm)), (qd, .inl (cD, 1, .inr (.inr (.inr (.inl (fun _ => 0)))))), (h0, .inr (6, [.ref hu, .ref hs, .ref hc, .ref hp, .ref hg, .int 0, .int 0, .int 0, .int 0, .int 0])), (qo, .inl (cJ, 1, .inr (.inl (fun _ => 0)))), (qu, .inr (1, [.int 0, .ref (D.2 50 0), .int 0])), (m0, .inr (10, [.int 1, .ref qu, .ref qs, .ref qc, .ref qp, .int 0, .int (-1), .int 0, .null]))] := hD
    have hK : va_K D vwCl [(cU, .object RX3), (cC, .object RX0), (cP, .int), (cS, .int), (cB, .int), (cM, .int), (cD, .double), (cJ, .long)] s := hK
    clear hS1
    obtain rfl : r_8 = 1 := hw_8
    refine lv_iload hx hb dL_law_708 (lv_at hl 1 rfl) ?_
    refine lv_icmp_eq (tgt := 715) hx hb dL_law_710 (by decide) (fun c_9 => ?_) (fun c_9 => absurd (by decide) c_9)
    refine lv_iload hx hb dL_law_715 (lv_at hl 1 rfl) ?_
    refine lv_if_ne (tgt := 732) hx hb dL_law_717 (by decide) (fun c_10 => ?_) (fun c_10 => absurd c_10 (by decide))
    refine lv_goto (tgt := 2663) hx hb dL_law_732 (by decide) ?_
    exact law_end C0 hL7 hAF hbA hS (lv_sub (l' := [(5, .int 0), (0, .ref b)]) hl [2, 7] rfl) (Nat.le_of_ble_eq_true rfl) (Nat.le_of_ble_eq_true rfl)
theorem dL_law_735 : decode cL_law 735 = .ok (.aload_n 1, 1) := by decide +kernel
theorem dL_law_736 : decode cL_law 736 = .ok (.aload_n 0, 1) := by decide +kernel
theorem dL_law_737 : decode cL_law 737 = .ok (.iload 5, 2) := by decide +kernel
theorem dL_law_739 : decode cL_law 739 = .ok (.iconst 1, 1) := by decide +kernel
theorem dL_law_740 : decode cL_law 740 = .ok (.iadd, 1) := by decide +kernel
theorem dL_law_741 : decode cL_law 741 = .ok (.iaload, 1) := by decide +kernel
theorem dL_law_742 : decode cL_law 742 = .ok (.aload_n 3, 1) := by decide +kernel
theorem dL_law_743 : decode cL_law 743 = .ok (.invokestatic 181, 3) := by decide +kernel
theorem zw_638 : Cond.methodLink RL 181 yL_begin ∈ z_Ts := z_m 638 (by decide +kernel) (by decide +kernel)
theorem zw_639 : Cond.static yL_begin ∈ z_Ts := z_m 639 (by decide +kernel) (by decide +kernel)
theorem zw_640 : Cond.codeWith yL_begin cL_begin 4 (some .int) [(0, 9, 12, 23), (0, 9, 15, 15)] ∈ z_Ts := z_m 640 (by decide +kernel) (by decide +kernel)
theorem dL_law_746 : decode cL_law 746 = .ok (.istore 6, 2) := by decide +kernel
theorem dL_law_748 : decode cL_law 748 = .ok (.aload_n 2, 1) := by decide +kernel
theorem dL_law_749 : decode cL_law 749 = .ok (.aload_n 0, 1) := by decide +kernel
theorem dL_law_750 : decode cL_law 750 = .ok (.iload 5, 2) := by decide +kernel
theorem dL_law_752 : decode cL_law 752 = .ok (.iconst 1, 1) := by decide +kernel
theorem dL_law_753 : decode cL_law 753 = .ok (.iadd, 1) := by decide +kernel
theorem dL_law_754 : decode cL_law 754 = .ok (.iaload, 1) := by decide +kernel
theorem dL_law_755 : decode cL_law 755 = .ok (.invokevirtual 183, 3) := by decide +kernel
theorem zw_1371 : Cond.methodLink RL 183 yX8_begin ∈ z_Ts := z_m 1371 (by decide +kernel) (by decide +kernel)
theorem zw_1372 : Cond.instanceMethod yX8_begin ∈ z_Ts := z_m 1372 (by decide +kernel) (by decide +kernel)
theorem zw_1373 : Cond.selects RX8 yX8_begin yX8_begin ∈ z_Ts := z_m 1373 (by decide +kernel) (by decide +kernel)
theorem zw_1374 : Cond.code yX8_begin cX8_begin 4 (some .int) ∈ z_Ts := z_m 1374 (by decide +kernel) (by decide +kernel)
theorem dL_law_758 : decode cL_law 758 = .ok (.istore 7, 2) := by decide +kernel
theorem dL_law_760 : decode cL_law 760 = .ok (.aload_n 2, 1) := by decide +kernel
theorem dL_law_761 : decode cL_law 761 = .ok (.invokevirtual 156, 3) := by decide +kernel
theorem dL_law_764 : decode cL_law 764 = .ok (.iload 6, 2) := by decide +kernel
theorem dL_law_766 : decode cL_law 766 = .ok (.if_icmp .eq 5, 3) := by decide +kernel
theorem dL_law_771 : decode cL_law 771 = .ok (.iload 6, 2) := by decide +kernel
theorem dL_law_773 : decode cL_law 773 = .ok (.ifCond .ne 15, 3) := by decide +kernel
theorem dL_law_788 : decode cL_law 788 = .ok (.goto 1875, 3) := by decide +kernel
set_option maxHeartbeats 4000000 in
set_option maxRecDepth 100000 in
theorem law_8 {p : Program} {l : Launch} {e : Env} {s : State} {m : MethodId} {below : List Frame} {meth : Method} {c : Code} {b L : Nat} {xs : Nat → Int32} {D : va_G} {A : Nat → Prop} (C0 : lw_At p s m meth c b L xs) (hL7 : L = 7) (hst : l.stackTraces = false) (hE : z_E s) (hX : z_X D A s s.heap) (hA : ∀ q, s.heap.size ≤ q → A q) (hbA : ¬ A b) (hAF : ∀ q, A q → s.heap.size ≤ q) {h0 hu hs hc hp hg u0 ul w0 go gs ge gb m0 qu qs qc qp qo qd : Nat} {cU cC cP cS cB cM cJ cD : ClassId} {fu fc : Nat → Option Nat} {fp fm : Nat → Int32} (hfu : fu 0 = some u0) (hfc : fc 0 = some w0) (hfp : ∀ j : Nat, j < 7 → fp j = 100) (hfm : ∀ j : Nat, j < 7 → fm j = 100) {H : Heap} {locs : List Loc} (hK : va_K D vwCl [(cU, .object RX3), (cC, .object RX0), (cP, .int), (cS, .int), (cB, .int), (cM, .int), (cJ, .long), (cD, .double)] s) (hP : va_P D vwCl [(h0, .inr (6, [.ref hu, .ref hs, .ref hc, .ref hp, .ref hg, .int 0, .int 0, .int 0, .int 0, .int 0])), (hu, .inl (cU, 10, .inr (.inr (.inr (.inr fu))))), (u0, .inr (5, [.ref ul, .int 0, .int 0, .int 45, .int 0, .int 0, .int (-1)])), (hc, .inl (cC, 4, .inr (.inr (.inr (.inr fc))))), (w0, .inr (2, [.int 100, .int (-1)])), (hp, .inl (cP, 7, .inl fp)), (hg, .inr (3, [.ref go, .ref gs, .ref ge, .ref gb, .int 0, .int 0, .int 0, .int 0])), (gs, .inl (cS, 10, .inl (fun _ => 0))), (gb, .inl (cB, 10, .inl (fun _ => 0))), (m0, .inr (10, [.int 0, .ref qu, .ref qs, .ref qc, .ref qp, .int 0, .int (-1), .int 0, .null])), (qu, .inr (1, [.int 0, .ref (D.2 50 0), .int 0])), (qs, .inr (1, [.int 0, .ref (D.2 50 0), .int 0])), (qc, .inr (1, [.int 0, .ref (D.2 50 0), .int 0])), (qp, .inl (cM, 7, .inl fm)), (qo, .inl (cJ, 1, .inr (.inl (fun _ => 0)))), (qd, .inl (cD, 1, .inr (.inr (.inr (.inl (fun _ => 0))))))] H) (hD : va_D A [(h0, .inr (6, [.ref hu, .ref hs, .ref hc, .ref hp, .ref hg, .int 0, .int 0, .int 0, .int 0, .int 0])), (hu, .inl (cU, 10, .inr (.inr (.inr (.inr fu))))), (u0, .inr (5, [.ref ul, .int 0, .int 0, .int 45, .int 0, .int 0, .int (-1)])), (hc, .inl (cC, 4, .inr (.inr (.inr (.inr fc))))), (w0, .inr (2, [.int 100, .int (-1)])), (hp, .inl (cP, 7, .inl fp)), (hg, .inr (3, [.ref go, .ref gs, .ref ge, .ref gb, .int 0, .int 0, .int 0, .int 0])), (gs, .inl (cS, 10, .inl (fun _ => 0))), (gb, .inl (cB, 10, .inl (fun _ => 0))), (m0, .inr (10, [.int 0, .ref qu, .ref qs, .ref qc, .ref qp, .int 0, .int (-1), .int 0, .null])), (qu, .inr (1, [.int 0, .ref (D.2 50 0), .int 0])), (qs, .inr (1, [.int 0, .ref (D.2 50 0), .int 0])), (qc, .inr (1, [.int 0, .ref (D.2 50 0), .int 0])), (qp, .inl (cM, 7, .inl fm)), (qo, .inl (cJ, 1, .inr (.inl (fun _ => 0)))), (qd, .inl (cD, 1, .inr (.inr (.inr (.inl (fun _ => 0))))))]) (hS : va_S A s.heap H locs) {ls : Array Slot} (hl : lv_has ls 9 [(5, .int 0), (4, .ref qd), (3, .ref qo), (2, .ref m0), (1, .ref h0), (0, .ref b)]) : W p l e room_1 s m #[Value.ref b] below meth c H locs 62 437 (lw_Z below #[Value.ref b] s) (F0 m 735 ls []) := by
  obtain ⟨hx, hb, hr, hml, hown, hts0, hXs, hbl, hlocks, hgv⟩ := id C0
  have hts := z_E.ts (args := #[Value.ref b]) hE
  have hown : s.vm.findClass RL = some m.cls := hown
  refine lv_aload_n hx hb dL_law_735 rfl (lv_at hl 4 rfl) ?_
  refine lv_aload_n hx hb dL_law_736 rfl (lv_at hl 5 rfl) ?_
  refine lv_iload hx hb dL_law_737 (lv_at hl 0 rfl) ?_
  refine lv_iconst (v := 1) hx hb dL_law_739 (by decide) ?_
  refine lv_iadd hx hb dL_law_740 ?_
  refine lv_topi (fun x_1 ex_1 => ?_)
  obtain rfl : x_1 = 1 := ex_1.trans (by first | rfl | decide | simp)
  refine va_sld (i := 1) hx hb hXs hbl hbA hS (by rw [hL7]; unfold vp_in; decide) dL_law_741 ?_
  refine lv_topi (fun a_2 ea_2 => ?_)
  refine lv_aload_n hx hb dL_law_742 rfl (lv_at hl 2 rfl) ?_
  obtain ⟨hb_4, hc_4⟩ := z_call (wc := [(h0, .inr (6, [.ref hu, .ref hs, .ref hc, .ref hp, .ref hg, .int 0, .int 0, .int 0, .int 0, .int 0])), (qo, .inl (cJ, 1, .inr (.inl (fun _ => 0))))]) (tc := [(cJ, .long)]) ([.ref h0, .int a_2, .ref qo]) hP hK hD hS hA hE hX [0, 14] rfl rfl [6] rfl
  have hF_4 := va_free (wc := [(h0, .inr (6, [.ref hu, .ref hs, .ref hc, .ref hp, .ref hg, .int 0, .int 0, .int 0, .int 0, .int 0])), (qo, .inl (cJ, 1, .inr (.inl (fun _ => 0))))]) hD hS hA [0, 14] rfl
  refine vx_calli (vx_runSX (As := [.ref h0, .int a_2, .ref qo]) (rest := []) ⟨hx, hb, hml, hown, hts⟩ (f_L_begin l hst D h0 hu hs hc hp hg 0 0 a_2 qo (fun _ => 0) cJ _ ) (z_cSW 3 hE zw_638 zw_639 zw_90 zw_640 rfl rfl rfl (by decide +kernel) ⟨(Nat.le_of_ble_eq_true rfl), (Nat.le_of_ble_eq_true rfl)⟩) ⟨hb_4, hc_4⟩ rfl rfl hl.1 rfl (lv_room (Nat.le_of_ble_eq_true rfl)) dL_law_743 ⟨(Nat.le_of_ble_eq_true rfl), (Nat.le_of_ble_eq_true rfl)⟩) hS (fun q _ h => hF_4 q h) hF_4 (fun q _ h => hF_4 q h) (fun E_4 ce_4 q9_4 u_4 t_4 H1 locs ht_4 hvm_4 hw_4 hB_4 hz_4 hk_4 hS1 hce_4 hcv_4 hcl_4 => ?_) (fun r_4 u_4 t_4 H1 locs ht_4 hvm_4 hw_4 hB_4 hz_4 hk_4 hS1 => ?_)
  · exact hw_4.elim
  · obtain ⟨hP, hK, hD⟩ := z_back (wc := [(h0, .inr (6, [.ref hu, .ref hs, .ref hc, .ref hp, .ref hg, .int 0, .int 0, .int 0, .int 0, .int 0])), (qo, .inl (cJ, 1, .inr (.inl (fun _ => 0))))]) (wr := [(hu, .inl (cU, 10, .inr (.inr (.inr (.inr fu))))), (u0, .inr (5, [.ref ul, .int 0, .int 0, .int 45, .int 0, .int 0, .int (-1)])), (hc, .inl (cC, 4, .inr (.inr (.inr (.inr fc))))), (w0, .inr (2, [.int 100, .int (-1)])), (hp, .inl (cP, 7, .inl fp)), (hg, .inr (3, [.ref go, .ref gs, .ref ge, .ref gb, .int 0, .int 0, .int 0, .int 0])), (gs, .inl (cS, 10, .inl (fun _ => 0))), (gb, .inl (cB, 10, .inl (fun _ => 0))), (m0, .inr (10, [.int 0, .ref qu, .ref qs, .ref qc, .ref qp, .int 0, .int (-1), .int 0, .null])), (qu, .inr (1, [.int 0, .ref (D.2 50 0), .int 0])), (qs, .inr (1, [.int 0, .ref (D.2 50 0), .int 0])), (qc, .inr (1, [.int 0, .ref (D.2 50 0), .int 0])), (qp, .inl (cM, 7, .inl fm)), (qd, .inl (cD, 1, .inr (.inr (.inr (.inl (fun _ => 0))))))]) (w1 := [(h0, .inr (6, [.ref hu, .ref hs, .ref hc, .ref hp, .ref hg, .int 0, .int 0, .int 0, .int 0, .int 0])), (qo, .inl (cJ, 1, .inr (.inl (fun _ => 0))))]) (tr := [(cU, .object RX3), (cC, .object RX0), (cP, .int), (cS, .int), (cB, .int), (cM, .int), (cD, .double)]) hP hK hD [0, 14] [1, 2, 3, 4, 5, 6, 7, 8, 9, 10, 11, 12, 13, 15] rfl rfl rfl (by decide) ht_4 hvm_4 hk_4 hF_4 [0, 1, 2, 3, 4, 5, 7] rfl hB_4
    have hS := hS1
    have hP : va_P D vwCl [(hu, .inl (cU, 10, .inr (.inr (.inr (.inr fu))))), (u0, .inr (5, [.ref ul, .int 0, .int 0, .int 45, .int 0, .int 0, .int (-1)])), (hc, .inl (cC, 4, .inr (.inr (.inr (.inr fc))))), (w0, .inr (2, [.int 100, .int (-1)])), (hp, .inl (cP, 7, .inl fp)), (hg, .inr (3, [.ref go, .ref gs, .ref ge, .ref gb, .int 0, .int 0, .int 0, .int 0])), (gs, .inl (cS, 10, .inl (fun _ => 0))), (gb, .inl (cB, 10, .inl (fun _ => 0))), (m0, .inr (10, [.int 0, .ref qu, .ref qs, .ref qc, .ref qp, .int 0, .int (-1), .int 0, .null])), (qu, .inr (1, [.int 0, .ref (D.2 50 0), .int 0])), (qs, .inr (1, [.int 0, .ref (D.2 50 0), .int 0])), (qc, .inr (1, [.int 0, .ref (D.2 50 0), .int 0])), (qp, .inl (cM, 7, .inl fm)), (qd, .inl (cD, 1, .inr (.inr (.inr (.inl (fun _ => 0)))))), (h0, .inr (6, [.ref hu, .ref hs, .ref hc, .ref hp, .ref hg, .int 0, .int 0, .int 0, .int 0, .int 0])), (qo, .inl (cJ, 1, .inr (.inl (fun _ => 0))))] H1 := hP
    have hD : va_D A [(hu, .inl (cU, 10, .inr (.inr (.inr (.inr fu))))), (u0, .inr (5, [.ref ul, .int 0, .int 0, .int 45, .int 0, .int 0, .int (-1)])), (hc, .inl (cC, 4, .inr (.inr (.inr (.inr fc))))), (w0, .inr (2, [.int 100, .int (-1)])), (hp, .inl (cP, 7, .inl fp)), (hg, .inr (3, [.ref go, .ref gs, .ref ge, .ref gb, .int 0, .int 0, .int 0, .int 0])), (gs, .inl (cS, 10, .inl (fun _ => 0))), (gb, .inl (cB, 10, .inl (fun _ => 0))), (m0, .inr (10, [.int 0, .ref qu, .ref qs, .ref qc, .ref qp, .int 0, .int (-1), .int 0, .null])), (qu, .inr (1, [.int 0, .ref (D.2 50 0), .int 0])), (qs, .inr (1, [.int 0, .ref (D.2 50 0), .int 0])), (qc, .inr (1, [.int 0, .ref (D.2 50 0), .int 0])), (qp, .inl (cM, 7, .inl fm)), (qd, .inl (cD, 1, .inr (.inr (.inr (.inl (fun _ => 0)))))), (h0, .inr (6, [.ref hu, .ref hs, .ref hc, .ref hp, .ref hg, .int 0, .int 0, .int 0, .int 0, .int 0])), (qo, .inl (cJ, 1, .inr (.inl (fun _ => 0))))] := hD
    have hK : va_K D vwCl [(cU, .object RX3), (cC, .object RX0), (cP, .int), (cS, .int), (cB, .int), (cM, .int), (cD, .double), (cJ, .long)] s := hK
    clear hS1
    obtain rfl : r_4 = 1 := hw_4
    refine lv_istore (lv' := [(6, .int 1), (5, .int 0), (4, .ref qd), (3, .ref qo), (2, .ref m0), (1, .ref h0), (0, .ref b)]) hx hb dL_law_746 hl (by decide) rfl (fun ls hl => ?_)
    refine lv_aload_n hx hb dL_law_748 rfl (lv_at hl 4 rfl) ?_
    refine lv_aload_n hx hb dL_law_749 rfl (lv_at hl 6 rfl) ?_
    refine lv_iload hx hb dL_law_750 (lv_at hl 1 rfl) ?_
    refine lv_iconst (v := 1) hx hb dL_law_752 (by decide) ?_
    refine lv_iadd hx hb dL_law_753 ?_
    refine lv_topi (fun x_5 ex_5 => ?_)
    obtain rfl : x_5 = 1 := ex_5.trans (by first | rfl | decide | simp)
    refine va_sld (i := 1) hx hb hXs hbl hbA hS (by rw [hL7]; unfold vp_in; decide) dL_law_754 ?_
    refine lv_topi (fun a_6 ea_6 => ?_)
    obtain rfl : a_2 = a_6 := ea_2.trans ea_6.symm
    obtain ⟨hb_7, hc_7⟩ := z_call (wc := [(m0, .inr (10, [.int 0, .ref qu, .ref qs, .ref qc, .ref qp, .int 0, .int (-1), .int 0, .null])), (qu, .inr (1, [.int 0, .ref (D.2 50 0), .int 0]))]) (tc := []) ([.ref m0, .int a_2]) hP hK hD hS hA hE hX [8, 9] rfl rfl [] rfl
    have hF_7 := va_free (wc := [(m0, .inr (10, [.int 0, .ref qu, .ref qs, .ref qc, .ref qp, .int 0, .int (-1), .int 0, .null])), (qu, .inr (1, [.int 0, .ref (D.2 50 0), .int 0]))]) hD hS hA [8, 9] rfl
    refine va_calli (va_runV (As := [.int a_2]) (rest := []) ⟨hx, hb, hml, hown, hts⟩ (f_X8_begin l D m0 qu qs qc qp 0 (D.2 50 0) a_2 _ ) (z_cV 1 hE zw_1371 zw_1372 zw_1373 zw_96 zw_1374 rfl rfl rfl (by decide +kernel) ⟨(Nat.le_of_ble_eq_true rfl), (Nat.le_of_ble_eq_true rfl)⟩) ⟨hb_7, va_recv hK hP (ci := 10) (q0 := 8) rfl rfl, hc_7⟩ rfl rfl hl.1 rfl (lv_room (Nat.le_of_ble_eq_true rfl)) dL_law_755 ⟨(Nat.le_of_ble_eq_true rfl), (Nat.le_of_ble_eq_true rfl)⟩) hS (fun q _ h => hF_7 q h) hF_7 (fun r_7 u_7 t_7 H1 locs ht_7 hvm_7 hw_7 hB_7 hz_7 hk_7 hS1 => ?_)
    obtain ⟨hP, hK, hD⟩ := z_back (wc := [(m0, .inr (10, [.int 0, .ref qu, .ref qs, .ref qc, .ref qp, .int 0, .int (-1), .int 0, .null])), (qu, .inr (1, [.int 0, .ref (D.2 50 0), .int 0]))]) (wr := [(hu, .inl (cU, 10, .inr (.inr (.inr (.inr fu))))), (u0, .inr (5, [.ref ul, .int 0, .int 0, .int 45, .int 0, .int 0, .int (-1)])), (hc, .inl (cC, 4, .inr (.inr (.inr (.inr fc))))), (w0, .inr (2, [.int 100, .int (-1)])), (hp, .inl (cP, 7, .inl fp)), (hg, .inr (3, [.ref go, .ref gs, .ref ge, .ref gb, .int 0, .int 0, .int 0, .int 0])), (gs, .inl (cS, 10, .inl (fun _ => 0))), (gb, .inl (cB, 10, .inl (fun _ => 0))), (qs, .inr (1, [.int 0, .ref (D.2 50 0), .int 0])), (qc, .inr (1, [.int 0, .ref (D.2 50 0), .int 0])), (qp, .inl (cM, 7, .inl fm)), (qd, .inl (cD, 1, .inr (.inr (.inr (.inl (fun _ => 0)))))), (h0, .inr (6, [.ref hu, .ref hs, .ref hc, .ref hp, .ref hg, .int 0, .int 0, .int 0, .int 0, .int 0])), (qo, .inl (cJ, 1, .inr (.inl (fun _ => 0))))]) (w1 := [(m0, .inr (10, [.int 1, .ref qu, .ref qs, .ref qc, .ref qp, .int 0, .int (-1), .int 0, .null])), (qu, .inr (1, [.int 0, .ref (D.2 50 0), .int 0]))]) (tr := [(cU, .object RX3), (cC, .object RX0), (cP, .int), (cS, .int), (cB, .int), (cM, .int), (cD, .double), (cJ, .long)]) hP hK hD [8, 9] [0, 1, 2, 3, 4, 5, 6, 7, 10, 11, 12, 13, 14, 15] rfl rfl rfl (by decide) ht_7 hvm_7 hk_7 hF_7 [0, 1, 2, 3, 4, 5, 6, 7] rfl hB_7
    have hS := hS1
    have hP : va_P D vwCl [(hu, .inl (cU, 10, .inr (.inr (.inr (.inr fu))))), (u0, .inr (5, [.ref ul, .int 0, .int 0, .int 45, .int 0, .int 0, .int (-1)])), (hc, .inl (cC, 4, .inr (.inr (.inr (.inr fc))))), (w0, .inr (2, [.int 100, .int (-1)])), (hp, .inl (cP, 7, .inl fp)), (hg, .inr (3, [.ref go, .ref gs, .ref ge, .ref gb, .int 0, .int 0, .int 0, .int 0])), (gs, .inl (cS, 10, .inl (fun _ => 0))), (gb, .inl (cB, 10, .inl (fun _ => 0))), (qs, .inr (1, [.int 0, .ref (D.2 50 0), .int 0])), (qc, .inr (1, [.int 0, .ref (D.2 50 0), .int 0])), (qp, .inl (cM, 7, .inl fm)), (qd, .inl (cD, 1, .inr (.inr (.inr (.inl (fun _ => 0)))))), (h0, .inr (6, [.ref hu, .ref hs, .ref hc, .ref hp, .ref hg, .int 0, .int 0, .int 0, .int 0, .int 0])), (qo, .inl (cJ, 1, .inr (.inl (fun _ => 0)))), (m0, .inr (10, [.int 1, .ref qu, .ref qs, .ref qc, .ref qp, .int 0, .int (-1), .int 0, .null])), (qu, .inr (1, [.int 0, .ref (D.2 50 0), .int 0]))] H1 := hP
    have hD : va_D A [(hu, .inl (cU, 10, .inr (.inr (.inr (.inr fu))))), (u0, .inr (5, [.ref ul, .int 0, .int 0, .int 45, .int 0, .int 0, .int (-1)])), (hc, .inl (cC, 4, .inr (.inr (.inr (.inr fc))))), (w0, .inr (2, [.int 100, .int (-1)])), (hp, .inl (cP, 7, .inl fp)), (hg, .inr (3, [.ref go, .ref gs, .ref ge, .ref gb, .int 0, .int 0, .int 0, .int 0])), (gs, .inl (cS, 10, .inl (fun _ => 0))), (gb, .inl (cB, 10, .inl (fun _ => 0))), (qs, .inr (1, [.int 0, .ref (D.2 50 0), .int 0])), (qc, .inr (1, [.int 0, .ref (D.2 50 0), .int 0])), (qp, .inl (cM, 7, .inl fm)), (qd, .inl (cD, 1, .inr (.inr (.inr (.inl (fun _ => 0)))))), (h0, .inr (6, [.ref hu, .ref hs, .ref hc, .ref hp, .ref hg, .int 0, .int 0, .int 0, .int 0, .int 0])), (qo, .inl (cJ, 1, .inr (.inl (fun _ => 0)))), (m0, .inr (10, [.int 1, .ref qu, .ref qs, .ref qc, .ref qp, .int 0, .int (-1), .int 0, .null])), (qu, .inr (1, [.int 0, .ref (D.2 50 0), .int 0]))] := hD
    have hK : va_K D vwCl [(cU, .object RX3), (cC, .object RX0), (cP, .int), (cS, .int), (cB, .int), (cM, .int), (cD, .double), (cJ, .long)] s := hK
    clear hS1
    refine lv_istore (lv' := [(7, .int r_7), (6, .int 1), (5, .int 0), (4, .ref qd), (3, .ref qo), (2, .ref m0), (1, .ref h0), (0, .ref b)]) hx hb dL_law_758 hl (by decide) rfl (fun ls hl => ?_)
    refine lv_aload_n hx hb dL_law_760 rfl (lv_at hl 5 rfl) ?_
    obtain ⟨hb_8, hc_8⟩ := z_call (wc := [(m0, .inr (10, [.int 1, .ref qu, .ref qs, .ref qc, .ref qp, .int 0, .int (-1), .int 0, .null]))]) (tc := []) ([.ref m0]) hP hK hD hS hA hE hX [14] rfl rfl [] rfl
    have hF_8 := va_free (wc := [(m0, .inr (10, [.int 1, .ref qu, .ref qs, .ref qc, .ref qp, .int 0, .int (-1), .int 0, .null]))]) hD hS hA [14] rfl
    refine va_calli (va_runV (As := []) (rest := []) ⟨hx, hb, hml, hown, hts⟩ (c_X8_thrown l D m0 qu qs qc qp 1 0 (-1) 0 .null _ ) (z_cV 0 hE zw_1108 zw_1109 zw_1110 zw_96 zw_1111 rfl rfl rfl (by decide +kernel) ⟨(Nat.le_of_ble_eq_true rfl), (Nat.le_of_ble_eq_true rfl)⟩) ⟨hb_8, va_recv hK hP (ci := 10) (q0 := 14) rfl rfl, hc_8⟩ rfl rfl hl.1 rfl (lv_room (Nat.le_of_ble_eq_true rfl)) dL_law_761 ⟨(Nat.le_of_ble_eq_true rfl), (Nat.le_of_ble_eq_true rfl)⟩) hS (fun q _ h => hF_8 q h) hF_8 (fun r_8 u_8 t_8 H1 locs ht_8 hvm_8 hw_8 hB_8 hz_8 hk_8 hS1 => ?_)
    obtain ⟨hP, hK, hD⟩ := z_back (wc := [(m0, .inr (10, [.int 1, .ref qu, .ref qs, .ref qc, .ref qp, .int 0, .int (-1), .int 0, .null]))]) (wr := [(hu, .inl (cU, 10, .inr (.inr (.inr (.inr fu))))), (u0, .inr (5, [.ref ul, .int 0, .int 0, .int 45, .int 0, .int 0, .int (-1)])), (hc, .inl (cC, 4, .inr (.inr (.inr (.inr fc))))), (w0, .inr (2, [.int 100, .int (-1)])), (hp, .inl (cP, 7, .inl fp)), (hg, .inr (3, [.ref go, .ref gs, .ref ge, .ref gb, .int 0, .int 0, .int 0, .int 0])), (gs, .inl (cS, 10, .inl (fun _ => 0))), (gb, .inl (cB, 10, .inl (fun _ => 0))), (qs, .inr (1, [.int 0, .ref (D.2 50 0), .int 0])), (qc, .inr (1, [.int 0, .ref (D.2 50 0), .int 0])), (qp, .inl (cM, 7, .inl fm)), (qd, .inl (cD, 1, .inr (.inr (.inr (.inl (fun _ => 0)))))), (h0, .inr (6, [.ref hu, .ref hs, .ref hc, .ref hp, .ref hg, .int 0, .int 0, .int 0, .int 0, .int 0])), (qo, .inl (cJ, 1, .inr (.inl (fun _ => 0)))), (qu, .inr (1, [.int 0, .ref (D.2 50 0), .int 0]))]) (w1 := [(m0, .inr (10, [.int 1, .ref qu, .ref qs, .ref qc, .ref qp, .int 0, .int (-1), .int 0, .null]))]) (tr := [(cU, .object RX3), (cC, .object RX0), (cP, .int), (cS, .int), (cB, .int), (cM, .int), (cD, .double), (cJ, .long)]) hP hK hD [14] [0, 1, 2, 3, 4, 5, 6, 7, 8, 9, 10, 11, 12, 13, 15] rfl rfl rfl (by decide) ht_8 hvm_8 hk_8 hF_8 [0, 1, 2, 3, 4, 5, 6, 7] rfl hB_8
    have hS := hS1
    have hP : va_P D vwCl [(hu, .inl (cU, 10, .inr (.inr (.inr (.inr fu))))), (u0, .inr (5, [.ref ul, .int 0, .int 0, .int 45, .int 0, .int 0, .int (-1)])), (hc, .inl (cC, 4, .inr (.inr (.inr (.inr fc))))), (w0, .inr (2, [.int 100, .int (-1)])), (hp, .inl (cP, 7, .inl fp)), (hg, .inr (3, [.ref go, .ref gs, .ref ge, .ref gb, .int 0, .int 0, .int 0, .int 0])), (gs, .inl (cS, 10, .inl (fun _ => 0))), (gb, .inl (cB, 10, .inl (fun _ => 0))), (qs, .inr (1, [.int 0, .ref (D.2 50 0), .int 0])), (qc, .inr (1, [.int 0, .ref (D.2 50 0), .int 0])), (qp, .inl (cM, 7, .inl fm)), (qd, .inl (cD, 1, .inr (.inr (.inr (.inl (fun _ => 0)))))), (h0, .inr (6, [.ref hu, .ref hs, .ref hc, .ref hp, .ref hg, .int 0, .int 0, .int 0, .int 0, .int 0])), (qo, .inl (cJ, 1, .inr (.inl (fun _ => 0)))), (qu, .inr (1, [.int 0, .ref (D.2 50 0), .int 0])), (m0, .inr (10, [.int 1, .ref qu, .ref qs, .ref qc, .ref qp, .int 0, .int (-1), .int 0, .null]))] H1 := hP
    have hD : va_D A [(hu, .inl (cU, 10, .inr (.inr (.inr (.inr fu))))), (u0, .inr (5, [.ref ul, .int 0, .int 0, .int 45, .int 0, .int 0, .int (-1)])), (hc, .inl (cC, 4, .inr (.inr (.inr (.inr fc))))), (w0, .inr (2, [.int 100, .int (-1)])), (hp, .inl (cP, 7, .inl fp)), (hg, .inr (3, [.ref go, .ref gs, .ref ge, .ref gb, .int 0, .int 0, .int 0, .int 0])), (gs, .inl (cS, 10, .inl (fun _ => 0))), (gb, .inl (cB, 10, .inl (fun _ => 0))), (qs, .inr (1, [.int 0, .ref (D.2 50 0), .int 0])), (qc, .inr (1, [.int 0, .ref (D.2 50 0), .int 0])), (qp, .inl (cM, 7, .inl fm)), (qd, .inl (cD, 1, .inr (.inr (.inr (.inl (fun _ => 0)))))), (h0, .inr (6, [.ref hu, .ref hs, .ref hc, .ref hp, .ref hg, .int 0, .int 0, .int 0, .int 0, .int 0])), (qo, .inl (cJ, 1, .inr (.inl (fun _ => 0)))), (qu, .inr (1, [.int 0, .ref (D.2 50 0), .int 0])), (m0, .inr (10, [.int 1, .ref qu, .ref qs, .ref qc, .ref qp, .int 0, .int (-1), .int 0, .null]))] := hD
    have hK : va_K D vwCl [(cU, .object RX3), (cC, .object RX0), (cP, .int), (cS, .int), (cB, .int), (cM, .int), (cD, .double), (cJ, .long)] s := hK
    clear hS1
    obtain rfl : r_8 = 1 := hw_8
    refine lv_iload hx hb dL_law_764 (lv_at hl 1 rfl) ?_
    refine lv_icmp_eq (tgt := 771) hx hb dL_law_766 (by decide) (fun c_9 => ?_) (fun c_9 => absurd (by decide) c_9)
    refine lv_iload hx hb dL_law_771 (lv_at hl 1 rfl) ?_
    refine lv_if_ne (tgt := 788) hx hb dL_law_773 (by decide) (fun c_10 => ?_) (fun c_10 => absurd c_10 (by decide))
    refine lv_goto (tgt := 2663) hx hb dL_law_788 (by decide) ?_
    exact law_end C0 hL7 hAF hbA hS (lv_sub (l' := [(5, .int 0), (0, .ref b)]) hl [2, 7] rfl) (Nat.le_of_ble_eq_true rfl) (Nat.le_of_ble_eq_true rfl)
theorem dL_law_791 : decode cL_law 791 = .ok (.aload_n 1, 1) := by decide +kernel
theorem dL_law_792 : decode cL_law 792 = .ok (.aload_n 0, 1) := by decide +kernel
theorem dL_law_793 : decode cL_law 793 = .ok (.iload 5, 2) := by decide +kernel
theorem dL_law_795 : decode cL_law 795 = .ok (.iconst 1, 1) := by decide +kernel
theorem dL_law_796 : decode cL_law 796 = .ok (.iadd, 1) := by decide +kernel
theorem dL_law_797 : decode cL_law 797 = .ok (.iaload, 1) := by decide +kernel
theorem dL_law_798 : decode cL_law 798 = .ok (.aload_n 0, 1) := by decide +kernel
theorem dL_law_799 : decode cL_law 799 = .ok (.iload 5, 2) := by decide +kernel
theorem dL_law_801 : decode cL_law 801 = .ok (.iconst 2, 1) := by decide +kernel
theorem dL_law_802 : decode cL_law 802 = .ok (.iadd, 1) := by decide +kernel
theorem dL_law_803 : decode cL_law 803 = .ok (.iaload, 1) := by decide +kernel
theorem dL_law_804 : decode cL_law 804 = .ok (.aload_n 3, 1) := by decide +kernel
theorem dL_law_805 : decode cL_law 805 = .ok (.invokestatic 184, 3) := by decide +kernel
theorem zw_646 : Cond.methodLink RL 184 yL_find ∈ z_Ts := z_m 646 (by decide +kernel) (by decide +kernel)
theorem zw_647 : Cond.static yL_find ∈ z_Ts := z_m 647 (by decide +kernel) (by decide +kernel)
theorem zw_648 : Cond.codeWith yL_find cL_find 5 (some .int) [(0, 10, 13, 23), (0, 10, 17, 13), (0, 10, 21, 15)] ∈ z_Ts := z_m 648 (by decide +kernel) (by decide +kernel)
theorem dL_law_808 : decode cL_law 808 = .ok (.istore 6, 2) := by decide +kernel
theorem dL_law_810 : decode cL_law 810 = .ok (.aload_n 2, 1) := by decide +kernel
theorem dL_law_811 : decode cL_law 811 = .ok (.aload_n 0, 1) := by decide +kernel
theorem dL_law_812 : decode cL_law 812 = .ok (.iload 5, 2) := by decide +kernel
theorem dL_law_814 : decode cL_law 814 = .ok (.iconst 1, 1) := by decide +kernel
theorem dL_law_815 : decode cL_law 815 = .ok (.iadd, 1) := by decide +kernel
theorem dL_law_816 : decode cL_law 816 = .ok (.iaload, 1) := by decide +kernel
theorem dL_law_817 : decode cL_law 817 = .ok (.aload_n 0, 1) := by decide +kernel
theorem dL_law_818 : decode cL_law 818 = .ok (.iload 5, 2) := by decide +kernel
theorem dL_law_820 : decode cL_law 820 = .ok (.iconst 2, 1) := by decide +kernel
theorem dL_law_821 : decode cL_law 821 = .ok (.iadd, 1) := by decide +kernel
theorem dL_law_822 : decode cL_law 822 = .ok (.iaload, 1) := by decide +kernel
theorem dL_law_823 : decode cL_law 823 = .ok (.invokevirtual 186, 3) := by decide +kernel
theorem zw_1375 : Cond.methodLink RL 186 yX8_find ∈ z_Ts := z_m 1375 (by decide +kernel) (by decide +kernel)
theorem zw_1376 : Cond.instanceMethod yX8_find ∈ z_Ts := z_m 1376 (by decide +kernel) (by decide +kernel)
theorem zw_1377 : Cond.selects RX8 yX8_find yX8_find ∈ z_Ts := z_m 1377 (by decide +kernel) (by decide +kernel)
theorem zw_1378 : Cond.code yX8_find cX8_find 3 (some .int) ∈ z_Ts := z_m 1378 (by decide +kernel) (by decide +kernel)
theorem dL_law_826 : decode cL_law 826 = .ok (.istore 7, 2) := by decide +kernel
theorem dL_law_828 : decode cL_law 828 = .ok (.aload_n 2, 1) := by decide +kernel
theorem dL_law_829 : decode cL_law 829 = .ok (.invokevirtual 156, 3) := by decide +kernel
theorem dL_law_832 : decode cL_law 832 = .ok (.iload 6, 2) := by decide +kernel
theorem dL_law_834 : decode cL_law 834 = .ok (.if_icmp .eq 5, 3) := by decide +kernel
theorem dL_law_839 : decode cL_law 839 = .ok (.iload 6, 2) := by decide +kernel
theorem dL_law_841 : decode cL_law 841 = .ok (.ifCond .ne 15, 3) := by decide +kernel
theorem dL_law_856 : decode cL_law 856 = .ok (.goto 1807, 3) := by decide +kernel
set_option maxHeartbeats 4000000 in
set_option maxRecDepth 100000 in
theorem law_9 {p : Program} {l : Launch} {e : Env} {s : State} {m : MethodId} {below : List Frame} {meth : Method} {c : Code} {b L : Nat} {xs : Nat → Int32} {D : va_G} {A : Nat → Prop} (C0 : lw_At p s m meth c b L xs) (hL7 : L = 7) (hst : l.stackTraces = false) (hE : z_E s) (hX : z_X D A s s.heap) (hA : ∀ q, s.heap.size ≤ q → A q) (hbA : ¬ A b) (hAF : ∀ q, A q → s.heap.size ≤ q) {h0 hu hs hc hp hg u0 ul w0 go gs ge gb m0 qu qs qc qp qo qd : Nat} {cU cC cP cS cB cM cJ cD : ClassId} {fu fc : Nat → Option Nat} {fp fm : Nat → Int32} (hfu : fu 0 = some u0) (hfc : fc 0 = some w0) (hfp : ∀ j : Nat, j < 7 → fp j = 100) (hfm : ∀ j : Nat, j < 7 → fm j = 100) {H : Heap} {locs : List Loc} (hK : va_K D vwCl [(cU, .object RX3), (cC, .object RX0), (cP, .int), (cS, .int), (cB, .int), (cM, .int), (cJ, .long), (cD, .double)] s) (hP : va_P D vwCl [(h0, .inr (6, [.ref hu, .ref hs, .ref hc, .ref hp, .ref hg, .int 0, .int 0, .int 0, .int 0, .int 0])), (hu, .inl (cU, 10, .inr (.inr (.inr (.inr fu))))), (u0, .inr (5, [.ref ul, .int 0, .int 0, .int 45, .int 0, .int 0, .int (-1)])), (hc, .inl (cC, 4, .inr (.inr (.inr (.inr fc))))), (w0, .inr (2, [.int 100, .int (-1)])), (hp, .inl (cP, 7, .inl fp)), (hg, .inr (3, [.ref go, .ref gs, .ref ge, .ref gb, .int 0, .int 0, .int 0, .int 0])), (gs, .inl (cS, 10, .inl (fun _ => 0))), (gb, .inl (cB, 10, .inl (fun _ => 0))), (m0, .inr (10, [.int 0, .ref qu, .ref qs, .ref qc, .ref qp, .int 0, .int (-1), .int 0, .null])), (qu, .inr (1, [.int 0, .ref (D.2 50 0), .int 0])), (qs, .inr (1, [.int 0, .ref (D.2 50 0), .int 0])), (qc, .inr (1, [.int 0, .ref (D.2 50 0), .int 0])), (qp, .inl (cM, 7, .inl fm)), (qo, .inl (cJ, 1, .inr (.inl (fun _ => 0)))), (qd, .inl (cD, 1, .inr (.inr (.inr (.inl (fun _ => 0))))))] H) (hD : va_D A [(h0, .inr (6, [.ref hu, .ref hs, .ref hc, .ref hp, .ref hg, .int 0, .int 0, .int 0, .int 0, .int 0])), (hu, .inl (cU, 10, .inr (.inr (.inr (.inr fu))))), (u0, .inr (5, [.ref ul, .int 0, .int 0, .int 45, .int 0, .int 0, .int (-1)])), (hc, .inl (cC, 4, .inr (.inr (.inr (.inr fc))))), (w0, .inr (2, [.int 100, .int (-1)])), (hp, .inl (cP, 7, .inl fp)), (hg, .inr (3, [.ref go, .ref gs, .ref ge, .ref gb, .int 0, .int 0, .int 0, .int 0])), (gs, .inl (cS, 10, .inl (fun _ => 0))), (gb, .inl (cB, 10, .inl (fun _ => 0))), (m0, .inr (10, [.int 0, .ref qu, .ref qs, .ref qc, .ref qp, .int 0, .int (-1), .int 0, .null])), (qu, .inr (1, [.int 0, .ref (D.2 50 0), .int 0])), (qs, .inr (1, [.int 0, .ref (D.2 50 0), .int 0])), (qc, .inr (1, [.int 0, .ref (D.2 50 0), .int 0])), (qp, .inl (cM, 7, .inl fm)), (qo, .inl (cJ, 1, .inr (.inl (fun _ => 0)))), (qd, .inl (cD, 1, .inr (.inr (.inr (.inl (fun _ => 0))))))]) (hS : va_S A s.heap H locs) {ls : Array Slot} (hl : lv_has ls 9 [(5, .int 0), (4, .ref qd), (3, .ref qo), (2, .ref m0), (1, .ref h0), (0, .ref b)]) : W p l e room_1 s m #[Value.ref b] below meth c H locs 62 437 (lw_Z below #[Value.ref b] s) (F0 m 791 ls []) := by
  obtain ⟨hx, hb, hr, hml, hown, hts0, hXs, hbl, hlocks, hgv⟩ := id C0
  have hts := z_E.ts (args := #[Value.ref b]) hE
  have hown : s.vm.findClass RL = some m.cls := hown
  refine lv_aload_n hx hb dL_law_791 rfl (lv_at hl 4 rfl) ?_
  refine lv_aload_n hx hb dL_law_792 rfl (lv_at hl 5 rfl) ?_
  refine lv_iload hx hb dL_law_793 (lv_at hl 0 rfl) ?_
  refine lv_iconst (v := 1) hx hb dL_law_795 (by decide) ?_
  refine lv_iadd hx hb dL_law_796 ?_
  refine lv_topi (fun x_1 ex_1 => ?_)
  obtain rfl : x_1 = 1 := ex_1.trans (by first | rfl | decide | simp)
  refine va_sld (i := 1) hx hb hXs hbl hbA hS (by rw [hL7]; unfold vp_in; decide) dL_law_797 ?_
  refine lv_topi (fun a_2 ea_2 => ?_)
  refine lv_aload_n hx hb dL_law_798 rfl (lv_at hl 5 rfl) ?_
  refine lv_iload hx hb dL_law_799 (lv_at hl 0 rfl) ?_
  refine lv_iconst (v := 2) hx hb dL_law_801 (by decide) ?_
  refine lv_iadd hx hb dL_law_802 ?_
  refine lv_topi (fun x_3 ex_3 => ?_)
  obtain rfl : x_3 = 2 := ex_3.trans (by first | rfl | decide | simp)
  refine va_sld (i := 2) hx hb hXs hbl hbA hS (by rw [hL7]; unfold vp_in; decide) dL_law_803 ?_
  refine lv_topi (fun a_4 ea_4 => ?_)
  refine lv_aload_n hx hb dL_law_804 rfl (lv_at hl 2 rfl) ?_
  obtain ⟨hb_6, hc_6⟩ := z_call (wc := [(h0, .inr (6, [.ref hu, .ref hs, .ref hc, .ref hp, .ref hg, .int 0, .int 0, .int 0, .int 0, .int 0])), (qo, .inl (cJ, 1, .inr (.inl (fun _ => 0))))]) (tc := [(cJ, .long)]) ([.ref h0, .int a_2, .int a_4, .ref qo]) hP hK hD hS hA hE hX [0, 14] rfl rfl [6] rfl
  have hF_6 := va_free (wc := [(h0, .inr (6, [.ref hu, .ref hs, .ref hc, .ref hp, .ref hg, .int 0, .int 0, .int 0, .int 0, .int 0])), (qo, .inl (cJ, 1, .inr (.inl (fun _ => 0))))]) hD hS hA [0, 14] rfl
  refine vx_calli (vx_runSX (As := [.ref h0, .int a_2, .int a_4, .ref qo]) (rest := []) ⟨hx, hb, hml, hown, hts⟩ (f_L_find l hst D h0 hu hs hc hp hg 0 0 a_2 a_4 qo (fun _ => 0) cJ _ ) (z_cSW 4 hE zw_646 zw_647 zw_90 zw_648 rfl rfl rfl (by decide +kernel) ⟨(Nat.le_of_ble_eq_true rfl), (Nat.le_of_ble_eq_true rfl)⟩) ⟨hb_6, hc_6⟩ rfl rfl hl.1 rfl (lv_room (Nat.le_of_ble_eq_true rfl)) dL_law_805 ⟨(Nat.le_of_ble_eq_true rfl), (Nat.le_of_ble_eq_true rfl)⟩) hS (fun q _ h => hF_6 q h) hF_6 (fun q _ h => hF_6 q h) (fun E_6 ce_6 q9_6 u_6 t_6 H1 locs ht_6 hvm_6 hw_6 hB_6 hz_6 hk_6 hS1 hce_6 hcv_6 hcl_6 => ?_) (fun r_6 u_6 t_6 H1 locs ht_6 hvm_6 hw_6 hB_6 hz_6 hk_6 hS1 => ?_)
  · exact hw_6.elim
  · obtain ⟨hP, hK, hD⟩ := z_back (wc := [(h0, .inr (6, [.ref hu, .ref hs, .ref hc, .ref hp, .ref hg, .int 0, .int 0, .int 0, .int 0, .int 0])), (qo, .inl (cJ, 1, .inr (.inl (fun _ => 0))))]) (wr := [(hu, .inl (cU, 10, .inr (.inr (.inr (.inr fu))))), (u0, .inr (5, [.ref ul, .int 0, .int 0, .int 45, .int 0, .int 0, .int (-1)])), (hc, .inl (cC, 4, .inr (.inr (.inr (.inr fc))))), (w0, .inr (2, [.int 100, .int (-1)])), (hp, .inl (cP, 7, .inl fp)), (hg, .inr (3, [.ref go, .ref gs, .ref ge, .ref gb, .int 0, .int 0, .int 0, .int 0])), (gs, .inl (cS, 10, .inl (fun _ => 0))), (gb, .inl (cB, 10, .inl (fun _ => 0))), (m0, .inr (10, [.int 0, .ref qu, .ref qs, .ref qc, .ref qp, .int 0, .int (-1), .int 0, .null])), (qu, .inr (1, [.int 0, .ref (D.2 50 0), .int 0])), (qs, .inr (1, [.int 0, .ref (D.2 50 0), .int 0])), (qc, .inr (1, [.int 0, .ref (D.2 50 0), .int 0])), (qp, .inl (cM, 7, .inl fm)), (qd, .inl (cD, 1, .inr (.inr (.inr (.inl (fun _ => 0))))))]) (w1 := [(h0, .inr (6, [.ref hu, .ref hs, .ref hc, .ref hp, .ref hg, .int 0, .int 0, .int 0, .int 0, .int 0])), (qo, .inl (cJ, 1, .inr (.inl (fun _ => 0))))]) (tr := [(cU, .object RX3), (cC, .object RX0), (cP, .int), (cS, .int), (cB, .int), (cM, .int), (cD, .double)]) hP hK hD [0, 14] [1, 2, 3, 4, 5, 6, 7, 8, 9, 10, 11, 12, 13, 15] rfl rfl rfl (by decide) ht_6 hvm_6 hk_6 hF_6 [0, 1, 2, 3, 4, 5, 7] rfl hB_6
    have hS := hS1
    have hP : va_P D vwCl [(hu, .inl (cU, 10, .inr (.inr (.inr (.inr fu))))), (u0, .inr (5, [.ref ul, .int 0, .int 0, .int 45, .int 0, .int 0, .int (-1)])), (hc, .inl (cC, 4, .inr (.inr (.inr (.inr fc))))), (w0, .inr (2, [.int 100, .int (-1)])), (hp, .inl (cP, 7, .inl fp)), (hg, .inr (3, [.ref go, .ref gs, .ref ge, .ref gb, .int 0, .int 0, .int 0, .int 0])), (gs, .inl (cS, 10, .inl (fun _ => 0))), (gb, .inl (cB, 10, .inl (fun _ => 0))), (m0, .inr (10, [.int 0, .ref qu, .ref qs, .ref qc, .ref qp, .int 0, .int (-1), .int 0, .null])), (qu, .inr (1, [.int 0, .ref (D.2 50 0), .int 0])), (qs, .inr (1, [.int 0, .ref (D.2 50 0), .int 0])), (qc, .inr (1, [.int 0, .ref (D.2 50 0), .int 0])), (qp, .inl (cM, 7, .inl fm)), (qd, .inl (cD, 1, .inr (.inr (.inr (.inl (fun _ => 0)))))), (h0, .inr (6, [.ref hu, .ref hs, .ref hc, .ref hp, .ref hg, .int 0, .int 0, .int 0, .int 0, .int 0])), (qo, .inl (cJ, 1, .inr (.inl (fun _ => 0))))] H1 := hP
    have hD : va_D A [(hu, .inl (cU, 10, .inr (.inr (.inr (.inr fu))))), (u0, .inr (5, [.ref ul, .int 0, .int 0, .int 45, .int 0, .int 0, .int (-1)])), (hc, .inl (cC, 4, .inr (.inr (.inr (.inr fc))))), (w0, .inr (2, [.int 100, .int (-1)])), (hp, .inl (cP, 7, .inl fp)), (hg, .inr (3, [.ref go, .ref gs, .ref ge, .ref gb, .int 0, .int 0, .int 0, .int 0])), (gs, .inl (cS, 10, .inl (fun _ => 0))), (gb, .inl (cB, 10, .inl (fun _ => 0))), (m0, .inr (10, [.int 0, .ref qu, .ref qs, .ref qc, .ref qp, .int 0, .int (-1), .int 0, .null])), (qu, .inr (1, [.int 0, .ref (D.2 50 0), .int 0])), (qs, .inr (1, [.int 0, .ref (D.2 50 0), .int 0])), (qc, .inr (1, [.int 0, .ref (D.2 50 0), .int 0])), (qp, .inl (cM, 7, .inl fm)), (qd, .inl (cD, 1, .inr (.inr (.inr (.inl (fun _ => 0)))))), (h0, .inr (6, [.ref hu, .ref hs, .ref hc, .ref hp, .ref hg, .int 0, .int 0, .int 0, .int 0, .int 0])), (qo, .inl (cJ, 1, .inr (.inl (fun _ => 0))))] := hD
    have hK : va_K D vwCl [(cU, .object RX3), (cC, .object RX0), (cP, .int), (cS, .int), (cB, .int), (cM, .int), (cD, .double), (cJ, .long)] s := hK
    clear hS1
    obtain rfl : r_6 = 1 := hw_6
    refine lv_istore (lv' := [(6, .int 1), (5, .int 0), (4, .ref qd), (3, .ref qo), (2, .ref m0), (1, .ref h0), (0, .ref b)]) hx hb dL_law_808 hl (by decide) rfl (fun ls hl => ?_)
    refine lv_aload_n hx hb dL_law_810 rfl (lv_at hl 4 rfl) ?_
    refine lv_aload_n hx hb dL_law_811 rfl (lv_at hl 6 rfl) ?_
    refine lv_iload hx hb dL_law_812 (lv_at hl 1 rfl) ?_
    refine lv_iconst (v := 1) hx hb dL_law_814 (by decide) ?_
    refine lv_iadd hx hb dL_law_815 ?_
    refine lv_topi (fun x_7 ex_7 => ?_)
    obtain rfl : x_7 = 1 := ex_7.trans (by first | rfl | decide | simp)
    refine va_sld (i := 1) hx hb hXs hbl hbA hS (by rw [hL7]; unfold vp_in; decide) dL_law_816 ?_
    refine lv_topi (fun a_8 ea_8 => ?_)
    obtain rfl : a_2 = a_8 := ea_2.trans ea_8.symm
    refine lv_aload_n hx hb dL_law_817 rfl (lv_at hl 6 rfl) ?_
    refine lv_iload hx hb dL_law_818 (lv_at hl 1 rfl) ?_
    refine lv_iconst (v := 2) hx hb dL_law_820 (by decide) ?_
    refine lv_iadd hx hb dL_law_821 ?_
    refine lv_topi (fun x_9 ex_9 => ?_)
    obtain rfl : x_9 = 2 := ex_9.trans (by first | rfl | decide | simp)
    refine va_sld (i := 2) hx hb hXs hbl hbA hS (by rw [hL7]; unfold vp_in; decide) dL_law_822 ?_
    refine lv_topi (fun a_10 ea_10 => ?_)
    obtain rfl : a_4 = a_10 := ea_4.trans ea_10.symm
    obtain ⟨hb_11, hc_11⟩ := z_call (wc := [(m0, .inr (10, [.int 0, .ref qu, .ref qs, .ref qc, .ref qp, .int 0, .int (-1), .int 0, .null])), (qu, .inr (1, [.int 0, .ref (D.2 50 0), .int 0]))]) (tc := []) ([.ref m0, .int a_2, .int a_4]) hP hK hD hS hA hE hX [8, 9] rfl rfl [] rfl
    have hF_11 := va_free (wc := [(m0, .inr (10, [.int 0, .ref qu, .ref qs, .ref qc, .ref qp, .int 0, .int (-1), .int 0, .null])), (qu, .inr (1, [.int 0, .ref (D.2 50 0), .int 0]))]) hD hS hA [8, 9] rfl
    refine va_calli (va_runV (As := [.int a_2, .int a_4]) (rest := []) ⟨hx, hb, hml, hown, hts⟩ (f_X8_find l D m0 qu qs qc qp 0 (D.2 50 0) a_2 a_4 _ ) (z_cV 2 hE zw_1375 zw_1376 zw_1377 zw_96 zw_1378 rfl rfl rfl (by decide +kernel) ⟨(Nat.le_of_ble_eq_true rfl), (Nat.le_of_ble_eq_true rfl)⟩) ⟨hb_11, va_recv hK hP (ci := 10) (q0 := 8) rfl rfl, hc_11⟩ rfl rfl hl.1 rfl (lv_room (Nat.le_of_ble_eq_true rfl)) dL_law_823 ⟨(Nat.le_of_ble_eq_true rfl), (Nat.le_of_ble_eq_true rfl)⟩) hS (fun q _ h => hF_11 q h) hF_11 (fun r_11 u_11 t_11 H1 locs ht_11 hvm_11 hw_11 hB_11 hz_11 hk_11 hS1 => ?_)
    obtain ⟨hP, hK, hD⟩ := z_back (wc := [(m0, .inr (10, [.int 0, .ref qu, .ref qs, .ref qc, .ref qp, .int 0, .int (-1), .int 0, .null])), (qu, .inr (1, [.int 0, .ref (D.2 50 0), .int 0]))]) (wr := [(hu, .inl (cU, 10, .inr (.inr (.inr (.inr fu))))), (u0, .inr (5, [.ref ul, .int 0, .int 0, .int 45, .int 0, .int 0, .int (-1)])), (hc, .inl (cC, 4, .inr (.inr (.inr (.inr fc))))), (w0, .inr (2, [.int 100, .int (-1)])), (hp, .inl (cP, 7, .inl fp)), (hg, .inr (3, [.ref go, .ref gs, .ref ge, .ref gb, .int 0, .int 0, .int 0, .int 0])), (gs, .inl (cS, 10, .inl (fun _ => 0))), (gb, .inl (cB, 10, .inl (fun _ => 0))), (qs, .inr (1, [.int 0, .ref (D.2 50 0), .int 0])), (qc, .inr (1, [.int 0, .ref (D.2 50 0), .int 0])), (qp, .inl (cM, 7, .inl fm)), (qd, .inl (cD, 1, .inr (.inr (.inr (.inl (fun _ => 0)))))), (h0, .inr (6, [.ref hu, .ref hs, .ref hc, .ref hp, .ref hg, .int 0, .int 0, .int 0, .int 0, .int 0])), (qo, .inl (cJ, 1, .inr (.inl (fun _ => 0))))]) (w1 := [(m0, .inr (10, [.int 1, .ref qu, .ref qs, .ref qc, .ref qp, .int 0, .int (-1), .int 0, .null])), (qu, .inr (1, [.int 0, .ref (D.2 50 0), .int 0]))]) (tr := [(cU, .object RX3), (cC, .object RX0), (cP, .int), (cS, .int), (cB, .int), (cM, .int), (cD, .double), (cJ, .long)]) hP hK hD [8, 9] [0, 1, 2, 3, 4, 5, 6, 7, 10, 11, 12, 13, 14, 15] rfl rfl rfl (by decide) ht_11 hvm_11 hk_11 hF_11 [0, 1, 2, 3, 4, 5, 6, 7] rfl hB_11
    have hS := hS1
    have hP : va_P D vwCl [(hu, .inl (cU, 10, .inr (.inr (.inr (.inr fu))))), (u0, .inr (5, [.ref ul, .int 0, .int 0, .int 45, .int 0, .int 0, .int (-1)])), (hc, .inl (cC, 4, .inr (.inr (.inr (.inr fc))))), (w0, .inr (2, [.int 100, .int (-1)])), (hp, .inl (cP, 7, .inl fp)), (hg, .inr (3, [.ref go, .ref gs, .ref ge, .ref gb, .int 0, .int 0, .int 0, .int 0])), (gs, .inl (cS, 10, .inl (fun _ => 0))), (gb, .inl (cB, 10, .inl (fun _ => 0))), (qs, .inr (1, [.int 0, .ref (D.2 50 0), .int 0])), (qc, .inr (1, [.int 0, .ref (D.2 50 0), .int 0])), (qp, .inl (cM, 7, .inl fm)), (qd, .inl (cD, 1, .inr (.inr (.inr (.inl (fun _ => 0)))))), (h0, .inr (6, [.ref hu, .ref hs, .ref hc, .ref hp, .ref hg, .int 0, .int 0, .int 0, .int 0, .int 0])), (qo, .inl (cJ, 1, .inr (.inl (fun _ => 0)))), (m0, .inr (10, [.int 1, .ref qu, .ref qs, .ref qc, .ref qp, .int 0, .int (-1), .int 0, .null])), (qu, .inr (1, [.int 0, .ref (D.2 50 0), .int 0]))] H1 := hP
    have hD : va_D A [(hu, .inl (cU, 10, .inr (.inr (.inr (.inr fu))))), (u0, .inr (5, [.ref ul, .int 0, .int 0, .int 45, .int 0, .int 0, .int (-1)])), (hc, .inl (cC, 4, .inr (.inr (.inr (.inr fc))))), (w0, .inr (2, [.int 100, .int (-1)])), (hp, .inl (cP, 7, .inl fp)), (hg, .inr (3, [.ref go, .ref gs, .ref ge, .ref gb, .int 0, .int 0, .int 0, .int 0])), (gs, .inl (cS, 10, .inl (fun _ => 0))), (gb, .inl (cB, 10, .inl (fun _ => 0))), (qs, .inr (1, [.int 0, .ref (D.2 50 0), .int 0])), (qc, .inr (1, [.int 0, .ref (D.2 50 0), .int 0])), (qp, .inl (cM, 7, .inl fm)), (qd, .inl (cD, 1, .inr (.inr (.inr (.inl (fun _ => 0)))))), (h0, .inr (6, [.ref hu, .ref hs, .ref hc, .ref hp, .ref hg, .int 0, .int 0, .int 0, .int 0, .int 0])), (qo, .inl (cJ, 1, .inr (.inl (fun _ => 0)))), (m0, .inr (10, [.int 1, .ref qu, .ref qs, .ref qc, .ref qp, .int 0, .int (-1), .int 0, .null])), (qu, .inr (1, [.int 0, .ref (D.2 50 0), .int 0]))] := hD
    have hK : va_K D vwCl [(cU, .object RX3), (cC, .object RX0), (cP, .int), (cS, .int), (cB, .int), (cM, .int), (cD, .double), (cJ, .long)] s := hK
    clear hS1
    refine lv_istore (lv' := [(7, .int r_11), (6, .int 1), (5, .int 0), (4, .ref qd), (3, .ref qo), (2, .ref m0), (1, .ref h0), (0, .ref b)]) hx hb dL_law_826 hl (by decide) rfl (fun ls hl => ?_)
    refine lv_aload_n hx hb dL_law_828 rfl (lv_at hl 5 rfl) ?_
    obtain ⟨hb_12, hc_12⟩ := z_call (wc := [(m0, .inr (10, [.int 1, .ref qu, .ref qs, .ref qc, .ref qp, .int 0, .int (-1), .int 0, .null]))]) (tc := []) ([.ref m0]) hP hK hD hS hA hE hX [14] rfl rfl [] rfl
    have hF_12 := va_free (wc := [(m0, .inr (10, [.int 1, .ref qu, .ref qs, .ref qc, .ref qp, .int 0, .int (-1), .int 0, .null]))]) hD hS hA [14] rfl
    refine va_calli (va_runV (As := []) (rest := []) ⟨hx, hb, hml, hown, hts⟩ (c_X8_thrown l D m0 qu qs qc qp 1 0 (-1) 0 .null _ ) (z_cV 0 hE zw_1108 zw_1109 zw_1110 zw_96 zw_1111 rfl rfl rfl (by decide +kernel) ⟨(Nat.le_of_ble_eq_true rfl), (Nat.le_of_ble_eq_true rfl)⟩) ⟨hb_12, va_recv hK hP (ci := 10) (q0 := 14) rfl rfl, hc_12⟩ rfl rfl hl.1 rfl (lv_room (Nat.le_of_ble_eq_true rfl)) dL_law_829 ⟨(Nat.le_of_ble_eq_true rfl), (Nat.le_of_ble_eq_true rfl)⟩) hS (fun q _ h => hF_12 q h) hF_12 (fun r_12 u_12 t_12 H1 locs ht_12 hvm_12 hw_12 hB_12 hz_12 hk_12 hS1 => ?_)
    obtain ⟨hP, hK, hD⟩ := z_back (wc := [(m0, .inr (10, [.int 1, .ref qu, .ref qs, .ref qc, .ref qp, .int 0, .int (-1), .int 0, .null]))]) (wr := [(hu, .inl (cU, 10, .inr (.inr (.inr (.inr fu))))), (u0, .inr (5, [.ref ul, .int 0, .int 0, .int 45, .int 0, .int 0, .int (-1)])), (hc, .inl (cC, 4, .inr (.inr (.inr (.inr fc))))), (w0, .inr (2, [.int 100, .int (-1)])), (hp, .inl (cP, 7, .inl fp)), (hg, .inr (3, [.ref go, .ref gs, .ref ge, .ref gb, .int 0, .int 0, .int 0, .int 0])), (gs, .inl (cS, 10, .inl (fun _ => 0))), (gb, .inl (cB, 10, .inl (fun _ => 0))), (qs, .inr (1, [.int 0, .ref (D.2 50 0), .int 0])), (qc, .inr (1, [.int 0, .ref (D.2 50 0), .int 0])), (qp, .inl (cM, 7, .inl fm)), (qd, .inl (cD, 1, .inr (.inr (.inr (.inl (fun _ => 0)))))), (h0, .inr (6, [.ref hu, .ref hs, .ref hc, .ref hp, .ref hg, .int 0, .int 0, .int 0, .int 0, .int 0])), (qo, .inl (cJ, 1, .inr (.inl (fun _ => 0)))), (qu, .inr (1, [.int 0, .ref (D.2 50 0), .int 0]))]) (w1 := [(m0, .inr (10, [.int 1, .ref qu, .ref qs, .ref qc, .ref qp, .int 0, .int (-1), .int 0, .null]))]) (tr := [(cU, .object RX3), (cC, .object RX0), (cP, .int), (cS, .int), (cB, .int), (cM, .int), (cD, .double), (cJ, .long)]) hP hK hD [14] [0, 1, 2, 3, 4, 5, 6, 7, 8, 9, 10, 11, 12, 13, 15] rfl rfl rfl (by decide) ht_12 hvm_12 hk_12 hF_12 [0, 1, 2, 3, 4, 5, 6, 7] rfl hB_12
    have hS := hS1
    have hP : va_P D vwCl [(hu, .inl (cU, 10, .inr (.inr (.inr (.inr fu))))), (u0, .inr (5, [.ref ul, .int 0, .int 0, .int 45, .int 0, .int 0, .int (-1)])), (hc, .inl (cC, 4, .inr (.inr (.inr (.inr fc))))), (w0, .inr (2, [.int 100, .int (-1)])), (hp, .inl (cP, 7, .inl fp)), (hg, .inr (3, [.ref go, .ref gs, .ref ge, .ref gb, .int 0, .int 0, .int 0, .int 0])), (gs, .inl (cS, 10, .inl (fun _ => 0))), (gb, .inl (cB, 10, .inl (fun _ => 0))), (qs, .inr (1, [.int 0, .ref (D.2 50 0), .int 0])), (qc, .inr (1, [.int 0, .ref (D.2 50 0), .int 0])), (qp, .inl (cM, 7, .inl fm)), (qd, .inl (cD, 1, .inr (.inr (.inr (.inl (fun _ => 0)))))), (h0, .inr (6, [.ref hu, .ref hs, .ref hc, .ref hp, .ref hg, .int 0, .int 0, .int 0, .int 0, .int 0])), (qo, .inl (cJ, 1, .inr (.inl (fun _ => 0)))), (qu, .inr (1, [.int 0, .ref (D.2 50 0), .int 0])), (m0, .inr (10, [.int 1, .ref qu, .ref qs, .ref qc, .ref qp, .int 0, .int (-1), .int 0, .null]))] H1 := hP
    have hD : va_D A [(hu, .inl (cU, 10, .inr (.inr (.inr (.inr fu))))), (u0, .inr (5, [.ref ul, .int 0, .int 0, .int 45, .int 0, .int 0, .int (-1)])), (hc, .inl (cC, 4, .inr (.inr (.inr (.inr fc))))), (w0, .inr (2, [.int 100, .int (-1)])), (hp, .inl (cP, 7, .inl fp)), (hg, .inr (3, [.ref go, .ref gs, .ref ge, .ref gb, .int 0, .int 0, .int 0, .int 0])), (gs, .inl (cS, 10, .inl (fun _ => 0))), (gb, .inl (cB, 10, .inl (fun _ => 0))), (qs, .inr (1, [.int 0, .ref (D.2 50 0), .int 0])), (qc, .inr (1, [.int 0, .ref (D.2 50 0), .int 0])), (qp, .inl (cM, 7, .inl fm)), (qd, .inl (cD, 1, .inr (.inr (.inr (.inl (fun _ => 0)))))), (h0, .inr (6, [.ref hu, .ref hs, .ref hc, .ref hp, .ref hg, .int 0, .int 0, .int 0, .int 0, .int 0])), (qo, .inl (cJ, 1, .inr (.inl (fun _ => 0)))), (qu, .inr (1, [.int 0, .ref (D.2 50 0), .int 0])), (m0, .inr (10, [.int 1, .ref qu, .ref qs, .ref qc, .ref qp, .int 0, .int (-1), .int 0, .null]))] := hD
    have hK : va_K D vwCl [(cU, .object RX3), (cC, .object RX0), (cP, .int), (cS, .int), (cB, .int), (cM, .int), (cD, .double), (cJ, .long)] s := hK
    clear hS1
    obtain rfl : r_12 = 1 := hw_12
    refine lv_iload hx hb dL_law_832 (lv_at hl 1 rfl) ?_
    refine lv_icmp_eq (tgt := 839) hx hb dL_law_834 (by decide) (fun c_13 => ?_) (fun c_13 => absurd (by decide) c_13)
    refine lv_iload hx hb dL_law_839 (lv_at hl 1 rfl) ?_
    refine lv_if_ne (tgt := 856) hx hb dL_law_841 (by decide) (fun c_14 => ?_) (fun c_14 => absurd c_14 (by decide))
    refine lv_goto (tgt := 2663) hx hb dL_law_856 (by decide) ?_
    exact law_end C0 hL7 hAF hbA hS (lv_sub (l' := [(5, .int 0), (0, .ref b)]) hl [2, 7] rfl) (Nat.le_of_ble_eq_true rfl) (Nat.le_of_ble_eq_true rfl)
theorem dL_law_859 : decode cL_law 859 = .ok (.aload_n 1, 1) := by decide +kernel
theorem dL_law_860 : decode cL_law 860 = .ok (.aload_n 0, 1) := by decide +kernel
theorem dL_law_861 : decode cL_law 861 = .ok (.iload 5, 2) := by decide +kernel
theorem dL_law_863 : decode cL_law 863 = .ok (.iconst 1, 1) := by decide +kernel
theorem dL_law_864 : decode cL_law 864 = .ok (.iadd, 1) := by decide +kernel
theorem dL_law_865 : decode cL_law 865 = .ok (.iaload, 1) := by decide +kernel
theorem dL_law_866 : decode cL_law 866 = .ok (.aload_n 0, 1) := by decide +kernel
theorem dL_law_867 : decode cL_law 867 = .ok (.iload 5, 2) := by decide +kernel
theorem dL_law_869 : decode cL_law 869 = .ok (.iconst 2, 1) := by decide +kernel
theorem dL_law_870 : decode cL_law 870 = .ok (.iadd, 1) := by decide +kernel
theorem dL_law_871 : decode cL_law 871 = .ok (.iaload, 1) := by decide +kernel
theorem dL_law_872 : decode cL_law 872 = .ok (.aload_n 0, 1) := by decide +kernel
theorem dL_law_873 : decode cL_law 873 = .ok (.iload 5, 2) := by decide +kernel
theorem dL_law_875 : decode cL_law 875 = .ok (.iconst 3, 1) := by decide +kernel
theorem dL_law_876 : decode cL_law 876 = .ok (.iadd, 1) := by decide +kernel
theorem dL_law_877 : decode cL_law 877 = .ok (.iaload, 1) := by decide +kernel
theorem dL_law_878 : decode cL_law 878 = .ok (.aload_n 0, 1) := by decide +kernel
theorem dL_law_879 : decode cL_law 879 = .ok (.iload 5, 2) := by decide +kernel
theorem dL_law_881 : decode cL_law 881 = .ok (.iconst 4, 1) := by decide +kernel
theorem dL_law_882 : decode cL_law 882 = .ok (.iadd, 1) := by decide +kernel
theorem dL_law_883 : decode cL_law 883 = .ok (.iaload, 1) := by decide +kernel
theorem dL_law_884 : decode cL_law 884 = .ok (.ifCond .eq 7, 3) := by decide +kernel
theorem dL_law_891 : decode cL_law 891 = .ok (.iconst 0, 1) := by decide +kernel
theorem dL_law_892 : decode cL_law 892 = .ok (.aload_n 0, 1) := by decide +kernel
theorem dL_law_893 : decode cL_law 893 = .ok (.iload 5, 2) := by decide +kernel
theorem dL_law_895 : decode cL_law 895 = .ok (.iconst 5, 1) := by decide +kernel
theorem dL_law_896 : decode cL_law 896 = .ok (.iadd, 1) := by decide +kernel
theorem dL_law_897 : decode cL_law 897 = .ok (.iaload, 1) := by decide +kernel
theorem dL_law_898 : decode cL_law 898 = .ok (.aload_n 0, 1) := by decide +kernel
theorem dL_law_899 : decode cL_law 899 = .ok (.iload 5, 2) := by decide +kernel
theorem dL_law_901 : decode cL_law 901 = .ok (.bipush 6, 2) := by decide +kernel
theorem dL_law_903 : decode cL_law 903 = .ok (.iadd, 1) := by decide +kernel
theorem dL_law_904 : decode cL_law 904 = .ok (.iaload, 1) := by decide +kernel
theorem dL_law_905 : decode cL_law 905 = .ok (.aload_n 3, 1) := by decide +kernel
theorem dL_law_906 : decode cL_law 906 = .ok (.invokestatic 187, 3) := by decide +kernel
theorem zw_654 : Cond.methodLink RL 187 yL_addShop ∈ z_Ts := z_m 654 (by decide +kernel) (by decide +kernel)
theorem zw_655 : Cond.static yL_addShop ∈ z_Ts := z_m 655 (by decide +kernel) (by decide +kernel)
theorem zw_656 : Cond.codeWith yL_addShop cL_addShop 9 (some .int) [(0, 18, 21, 23), (0, 18, 25, 13), (0, 18, 29, 15), (0, 18, 33, 17)] ∈ z_Ts := z_m 656 (by decide +kernel) (by decide +kernel)
theorem dL_law_909 : decode cL_law 909 = .ok (.istore 6, 2) := by decide +kernel
theorem dL_law_911 : decode cL_law 911 = .ok (.aload_n 2, 1) := by decide +kernel
theorem dL_law_912 : decode cL_law 912 = .ok (.aload_n 0, 1) := by decide +kernel
theorem dL_law_913 : decode cL_law 913 = .ok (.iload 5, 2) := by decide +kernel
theorem dL_law_915 : decode cL_law 915 = .ok (.iconst 1, 1) := by decide +kernel
theorem dL_law_916 : decode cL_law 916 = .ok (.iadd, 1) := by decide +kernel
theorem dL_law_917 : decode cL_law 917 = .ok (.iaload, 1) := by decide +kernel
theorem dL_law_918 : decode cL_law 918 = .ok (.aload_n 0, 1) := by decide +kernel
theorem dL_law_919 : decode cL_law 919 = .ok (.iload 5, 2) := by decide +kernel
theorem dL_law_921 : decode cL_law 921 = .ok (.iconst 2, 1) := by decide +kernel
theorem dL_law_922 : decode cL_law 922 = .ok (.iadd, 1) := by decide +kernel
theorem dL_law_923 : decode cL_law 923 = .ok (.iaload, 1) := by decide +kernel
theorem dL_law_924 : decode cL_law 924 = .ok (.aload_n 0, 1) := by decide +kernel
theorem dL_law_925 : decode cL_law 925 = .ok (.iload 5, 2) := by decide +kernel
theorem dL_law_927 : decode cL_law 927 = .ok (.iconst 3, 1) := by decide +kernel
theorem dL_law_928 : decode cL_law 928 = .ok (.iadd, 1) := by decide +kernel
theorem dL_law_929 : decode cL_law 929 = .ok (.iaload, 1) := by decide +kernel
theorem dL_law_930 : decode cL_law 930 = .ok (.aload_n 0, 1) := by decide +kernel
theorem dL_law_931 : decode cL_law 931 = .ok (.iload 5, 2) := by decide +kernel
theorem dL_law_933 : decode cL_law 933 = .ok (.iconst 4, 1) := by decide +kernel
theorem dL_law_934 : decode cL_law 934 = .ok (.iadd, 1) := by decide +kernel
theorem dL_law_935 : decode cL_law 935 = .ok (.iaload, 1) := by decide +kernel
theorem dL_law_936 : decode cL_law 936 = .ok (.ifCond .eq 7, 3) := by decide +kernel
theorem dL_law_943 : decode cL_law 943 = .ok (.iconst 0, 1) := by decide +kernel
theorem dL_law_944 : decode cL_law 944 = .ok (.aload_n 0, 1) := by decide +kernel
theorem dL_law_945 : decode cL_law 945 = .ok (.iload 5, 2) := by decide +kernel
theorem dL_law_947 : decode cL_law 947 = .ok (.iconst 5, 1) := by decide +kernel
theorem dL_law_948 : decode cL_law 948 = .ok (.iadd, 1) := by decide +kernel
theorem dL_law_949 : decode cL_law 949 = .ok (.iaload, 1) := by decide +kernel
theorem dL_law_950 : decode cL_law 950 = .ok (.aload_n 0, 1) := by decide +kernel
theorem dL_law_951 : decode cL_law 951 = .ok (.iload 5, 2) := by decide +kernel
theorem dL_law_953 : decode cL_law 953 = .ok (.bipush 6, 2) := by decide +kernel
theorem dL_law_955 : decode cL_law 955 = .ok (.iadd, 1) := by decide +kernel
theorem dL_law_956 : decode cL_law 956 = .ok (.iaload, 1) := by decide +kernel
theorem dL_law_957 : decode cL_law 957 = .ok (.invokevirtual 190, 3) := by decide +kernel
theorem zw_1392 : Cond.methodLink RL 190 yX8_addShop ∈ z_Ts := z_m 1392 (by decide +kernel) (by decide +kernel)
theorem zw_1393 : Cond.instanceMethod yX8_addShop ∈ z_Ts := z_m 1393 (by decide +kernel) (by decide +kernel)
theorem zw_1394 : Cond.selects RX8 yX8_addShop yX8_addShop ∈ z_Ts := z_m 1394 (by decide +kernel) (by decide +kernel)
theorem zw_1395 : Cond.code yX8_addShop cX8_addShop 10 (some .int) ∈ z_Ts := z_m 1395 (by decide +kernel) (by decide +kernel)
theorem dL_law_960 : decode cL_law 960 = .ok (.istore 7, 2) := by decide +kernel
theorem dL_law_962 : decode cL_law 962 = .ok (.aload_n 2, 1) := by decide +kernel
theorem dL_law_963 : decode cL_law 963 = .ok (.invokevirtual 156, 3) := by decide +kernel
theorem dL_law_966 : decode cL_law 966 = .ok (.iload 6, 2) := by decide +kernel
theorem dL_law_968 : decode cL_law 968 = .ok (.if_icmp .eq 5, 3) := by decide +kernel
theorem dL_law_973 : decode cL_law 973 = .ok (.iload 6, 2) := by decide +kernel
theorem dL_law_975 : decode cL_law 975 = .ok (.ifCond .ne 15, 3) := by decide +kernel
theorem dL_law_990 : decode cL_law 990 = .ok (.goto 1673, 3) := by decide +kernel
theorem dL_law_939 : decode cL_law 939 = .ok (.iconst 1, 1) := by decide +kernel
theorem dL_law_940 : decode cL_law 940 = .ok (.goto 4, 3) := by decide +kernel
theorem dL_law_887 : decode cL_law 887 = .ok (.iconst 1, 1) := by decide +kernel
theorem dL_law_888 : decode cL_law 888 = .ok (.goto 4, 3) := by decide +kernel
set_option maxHeartbeats 4000000 in
set_option maxRecDepth 100000 in
theorem law_10 {p : Program} {l : Launch} {e : Env} {s : State} {m : MethodId} {below : List Frame} {meth : Method} {c : Code} {b L : Nat} {xs : Nat → Int32} {D : va_G} {A : Nat → Prop} (C0 : lw_At p s m meth c b L xs) (hL7 : L = 7) (hst : l.stackTraces = false) (hE : z_E s) (hX : z_X D A s s.heap) (hA : ∀ q, s.heap.size ≤ q → A q) (hbA : ¬ A b) (hAF : ∀ q, A q → s.heap.size ≤ q) {h0 hu hs hc hp hg u0 ul w0 go gs ge gb m0 qu qs qc qp qo qd : Nat} {cU cC cP cS cB cM cJ cD : ClassId} {fu fc : Nat → Option Nat} {fp fm : Nat → Int32} (hfu : fu 0 = some u0) (hfc : fc 0 = some w0) (hfp : ∀ j : Nat, j < 7 → fp j = 100) (hfm : ∀ j : Nat, j < 7 → fm j = 100) {H : Heap} {locs : List Loc} (hK : va_K D vwCl [(cU, .object RX3), (cC, .object RX0), (cP, .int), (cS, .int), (cB, .int), (cM, .int), (cJ, .long), (cD, .double)] s) (hP : va_P D vwCl [(h0, .inr (6, [.ref hu, .ref hs, .ref hc, .ref hp, .ref hg, .int 0, .int 0, .int 0, .int 0, .int 0])), (hu, .inl (cU, 10, .inr (.inr (.inr (.inr fu))))), (u0, .inr (5, [.ref ul, .int 0, .int 0, .int 45, .int 0, .int 0, .int (-1)])), (hc, .inl (cC, 4, .inr (.inr (.inr (.inr fc))))), (w0, .inr (2, [.int 100, .int (-1)])), (hp, .inl (cP, 7, .inl fp)), (hg, .inr (3, [.ref go, .ref gs, .ref ge, .ref gb, .int 0, .int 0, .int 0, .int 0])), (gs, .inl (cS, 10, .inl (fun _ => 0))), (gb, .inl (cB, 10, .inl (fun _ => 0))), (m0, .inr (10, [.int 0, .ref qu, .ref qs, .ref qc, .ref qp, .int 0, .int (-1), .int 0, .null])), (qu, .inr (1, [.int 0, .ref (D.2 50 0), .int 0])), (qs, .inr (1, [.int 0, .ref (D.2 50 0), .int 0])), (qc, .inr (1, [.int 0, .ref (D.2 50 0), .int 0])), (qp, .inl (cM, 7, .inl fm)), (qo, .inl (cJ, 1, .inr (.inl (fun _ => 0)))), (qd, .inl (cD, 1, .inr (.inr (.inr (.inl (fun _ => 0))))))] H) (hD : va_D A [(h0, .inr (6, [.ref hu, .ref hs, .ref hc, .ref hp, .ref hg, .int 0, .int 0, .int 0, .int 0, .int 0])), (hu, .inl (cU, 10, .inr (.inr (.inr (.inr fu))))), (u0, .inr (5, [.ref ul, .int 0, .int 0, .int 45, .int 0, .int 0, .int (-1)])), (hc, .inl (cC, 4, .inr (.inr (.inr (.inr fc))))), (w0, .inr (2, [.int 100, .int (-1)])), (hp, .inl (cP, 7, .inl fp)), (hg, .inr (3, [.ref go, .ref gs, .ref ge, .ref gb, .int 0, .int 0, .int 0, .int 0])), (gs, .inl (cS, 10, .inl (fun _ => 0))), (gb, .inl (cB, 10, .inl (fun _ => 0))), (m0, .inr (10, [.int 0, .ref qu, .ref qs, .ref qc, .ref qp, .int 0, .int (-1), .int 0, .null])), (qu, .inr (1, [.int 0, .ref (D.2 50 0), .int 0])), (qs, .inr (1, [.int 0, .ref (D.2 50 0), .int 0])), (qc, .inr (1, [.int 0, .ref (D.2 50 0), .int 0])), (qp, .inl (cM, 7, .inl fm)), (qo, .inl (cJ, 1, .inr (.inl (fun _ => 0)))), (qd, .inl (cD, 1, .inr (.inr (.inr (.inl (fun _ => 0))))))]) (hS : va_S A s.heap H locs) {ls : Array Slot} (hl : lv_has ls 9 [(5, .int 0), (4, .ref qd), (3, .ref qo), (2, .ref m0), (1, .ref h0), (0, .ref b)]) : W p l e room_1 s m #[Value.ref b] below meth c H locs 62 437 (lw_Z below #[Value.ref b] s) (F0 m 859 ls []) := by
  obtain ⟨hx, hb, hr, hml, hown, hts0, hXs, hbl, hlocks, hgv⟩ := id C0
  have hts := z_E.ts (args := #[Value.ref b]) hE
  have hown : s.vm.findClass RL = some m.cls := hown
  refine lv_aload_n hx hb dL_law_859 rfl (lv_at hl 4 rfl) ?_
  refine lv_aload_n hx hb dL_law_860 rfl (lv_at hl 5 rfl) ?_
  refine lv_iload hx hb dL_law_861 (lv_at hl 0 rfl) ?_
  refine lv_iconst (v := 1) hx hb dL_law_863 (by decide) ?_
  refine lv_iadd hx hb dL_law_864 ?_
  refine lv_topi (fun x_1 ex_1 => ?_)
  obtain rfl : x_1 = 1 := ex_1.trans (by first | rfl | decide | simp)
  refine va_sld (i := 1) hx hb hXs hbl hbA hS (by rw [hL7]; unfold vp_in; decide) dL_law_865 ?_
  refine lv_topi (fun a_2 ea_2 => ?_)
  refine lv_aload_n hx hb dL_law_866 rfl (lv_at hl 5 rfl) ?_
  refine lv_iload hx hb dL_law_867 (lv_at hl 0 rfl) ?_
  refine lv_iconst (v := 2) hx hb dL_law_869 (by decide) ?_
  refine lv_iadd hx hb dL_law_870 ?_
  refine lv_topi (fun x_3 ex_3 => ?_)
  obtain rfl : x_3 = 2 := ex_3.trans (by first | rfl | decide | simp)
  refine va_sld (i := 2) hx hb hXs hbl hbA hS (by rw [hL7]; unfold vp_in; decide) dL_law_871 ?_
  refine lv_topi (fun a_4 ea_4 => ?_)
  refine lv_aload_n hx hb dL_law_872 rfl (lv_at hl 5 rfl) ?_
  refine lv_iload hx hb dL_law_873 (lv_at hl 0 rfl) ?_
  refine lv_iconst (v := 3) hx hb dL_law_875 (by decide) ?_
  refine lv_iadd hx hb dL_law_876 ?_
  refine lv_topi (fun x_5 ex_5 => ?_)
  obtain rfl : x_5 = 3 := ex_5.trans (by first | rfl | decide | simp)
  refine va_sld (i := 3) hx hb hXs hbl hbA hS (by rw [hL7]; unfold vp_in; decide) dL_law_877 ?_
  refine lv_topi (fun a_6 ea_6 => ?_)
  refine lv_aload_n hx hb dL_law_878 rfl (lv_at hl 5 rfl) ?_
  refine lv_iload hx hb dL_law_879 (lv_at hl 0 rfl) ?_
  refine lv_iconst (v := 4) hx hb dL_law_881 (by decide) ?_
  refine lv_iadd hx hb dL_law_882 ?_
  refine lv_topi (fun x_7 ex_7 => ?_)
  obtain rfl : x_7 = 4 := ex_7.trans (by first | rfl | decide | simp)
  refine va_sld (i := 4) hx hb hXs hbl hbA hS (by rw [hL7]; unfold vp_in; decide) dL_law_883 ?_
  refine lv_topi (fun a_8 ea_8 => ?_)
  refine lv_if_eq (tgt := 891) hx hb dL_law_884 (by decide) (fun c_9 => ?_) (fun c_9 => ?_)
  · refine lv_iconst (v := 0) hx hb dL_law_891 (by decide) ?_
    refine lv_aload_n hx hb dL_law_892 rfl (lv_at hl 5 rfl) ?_
    refine lv_iload hx hb dL_law_893 (lv_at hl 0 rfl) ?_
    refine lv_iconst (v := 5) hx hb dL_law_895 (by decide) ?_
    refine lv_iadd hx hb dL_law_896 ?_
    refine lv_topi (fun x_10 ex_10 => ?_)
    obtain rfl : x_10 = 5 := ex_10.trans (by first | rfl | decide | simp)
    refine va_sld (i := 5) hx hb hXs hbl hbA hS (by rw [hL7]; unfold vp_in; decide) dL_law_897 ?_
    refine lv_topi (fun a_11 ea_11 => ?_)
    refine lv_aload_n hx hb dL_law_898 rfl (lv_at hl 5 rfl) ?_
    refine lv_iload hx hb dL_law_899 (lv_at hl 0 rfl) ?_
    refine lv_bipush (v := 6) hx hb dL_law_901 (by decide) ?_
    refine lv_iadd hx hb dL_law_903 ?_
    refine lv_topi (fun x_12 ex_12 => ?_)
    obtain rfl : x_12 = 6 := ex_12.trans (by first | rfl | decide | simp)
    refine va_sld (i := 6) hx hb hXs hbl hbA hS (by rw [hL7]; unfold vp_in; decide) dL_law_904 ?_
    refine lv_topi (fun a_13 ea_13 => ?_)
    refine lv_aload_n hx hb dL_law_905 rfl (lv_at hl 2 rfl) ?_
    obtain ⟨hb_15, hc_15⟩ := z_call (wc := [(h0, .inr (6, [.ref hu, .ref hs, .ref hc, .ref hp, .ref hg, .int 0, .int 0, .int 0, .int 0, .int 0])), (qo, .inl (cJ, 1, .inr (.inl (fun _ => 0))))]) (tc := [(cJ, .long)]) ([.ref h0, .int a_2, .int a_4, .int a_6, .int 0, .int a_11, .int a_13, .ref qo]) hP hK hD hS hA hE hX [0, 14] rfl rfl [6] rfl
    have hF_15 := va_free (wc := [(h0, .inr (6, [.ref hu, .ref hs, .ref hc, .ref hp, .ref hg, .int 0, .int 0, .int 0, .int 0, .int 0])), (qo, .inl (cJ, 1, .inr (.inl (fun _ => 0))))]) hD hS hA [0, 14] rfl
    refine vx_calli (vx_runSX (As := [.ref h0, .int a_2, .int a_4, .int a_6, .int 0, .int a_11, .int a_13, .ref qo]) (rest := []) ⟨hx, hb, hml, hown, hts⟩ (f_L_addShop l hst D h0 hu hs hc hp hg 0 0 a_2 a_4 a_6 0 a_11 a_13 qo (fun _ => 0) cJ _ ) (z_cSW 8 hE zw_654 zw_655 zw_90 zw_656 rfl rfl rfl (by decide +kernel) ⟨(Nat.le_of_ble_eq_true rfl), (Nat.le_of_ble_eq_true rfl)⟩) ⟨hb_15, hc_15⟩ rfl rfl hl.1 rfl (lv_room (Nat.le_of_ble_eq_true rfl)) dL_law_906 ⟨(Nat.le_of_ble_eq_true rfl), (Nat.le_of_ble_eq_true rfl)⟩) hS (fun q _ h => hF_15 q h) hF_15 (fun q _ h => hF_15 q h) (fun E_15 ce_15 q9_15 u_15 t_15 H1 locs ht_15 hvm_15 hw_15 hB_15 hz_15 hk_15 hS1 hce_15 hcv_15 hcl_15 => ?_) (fun r_15 u_15 t_15 H1 locs ht_15 hvm_15 hw_15 hB_15 hz_15 hk_15 hS1 => ?_)
    · exact hw_15.elim
    · obtain ⟨hP, hK, hD⟩ := z_back (wc := [(h0, .inr (6, [.ref hu, .ref hs, .ref hc, .ref hp, .ref hg, .int 0, .int 0, .int 0, .int 0, .int 0])), (qo, .inl (cJ, 1, .inr (.inl (fun _ => 0))))]) (wr := [(hu, .inl (cU, 10, .inr (.inr (.inr (.inr fu))))), (u0, .inr (5, [.ref ul, .int 0, .int 0, .int 45, .int 0, .int 0, .int (-1)])), (hc, .inl (cC, 4, .inr (.inr (.inr (.inr fc))))), (w0, .inr (2, [.int 100, .int (-1)])), (hp, .inl (cP, 7, .inl fp)), (hg, .inr (3, [.ref go, .ref gs, .ref ge, .ref gb, .int 0, .int 0, .int 0, .int 0])), (gs, .inl (cS, 10, .inl (fun _ => 0))), (gb, .inl (cB, 10, .inl (fun _ => 0))), (m0, .inr (10, [.int 0, .ref qu, .ref qs, .ref qc, .ref qp, .int 0, .int (-1), .int 0, .null])), (qu, .inr (1, [.int 0, .ref (D.2 50 0), .int 0])), (qs, .inr (1, [.int 0, .ref (D.2 50 0), .int 0])), (qc, .inr (1, [.int 0, .ref (D.2 50 0), .int 0])), (qp, .inl (cM, 7, .inl fm)), (qd, .inl (cD, 1, .inr (.inr (.inr (.inl (fun _ => 0))))))]) (w1 := [(h0, .inr (6, [.ref hu, .ref hs, .ref hc, .ref hp, .ref hg, .int 0, .int 0, .int 0, .int 0, .int 0])), (qo, .inl (cJ, 1, .inr (.inl (fun _ => 0))))]) (tr := [(cU, .object RX3), (cC, .object RX0), (cP, .int), (cS, .int), (cB, .int), (cM, .int), (cD, .double)]) hP hK hD [0, 14] [1, 2, 3, 4, 5, 6, 7, 8, 9, 10, 11, 12, 13, 15] rfl rfl rfl (by decide) ht_15 hvm_15 hk_15 hF_15 [0, 1, 2, 3, 4, 5, 7] rfl hB_15
      have hS := hS1
      have hP : va_P D vwCl [(hu, .inl (cU, 10, .inr (.inr (.inr (.inr fu))))), (u0, .inr (5, [.ref ul, .int 0, .int 0, .int 45, .int 0, .int 0, .int (-1)])), (hc, .inl (cC, 4, .inr (.inr (.inr (.inr fc))))), (w0, .inr (2, [.int 100, .int (-1)])), (hp, .inl (cP, 7, .inl fp)), (hg, .inr (3, [.ref go, .ref gs, .ref ge, .ref gb, .int 0, .int 0, .int 0, .int 0])), (gs, .inl (cS, 10, .inl (fun _ => 0))), (gb, .inl (cB, 10, .inl (fun _ => 0))), (m0, .inr (10, [.int 0, .ref qu, .ref qs, .ref qc, .ref qp, .int 0, .int (-1), .int 0, .null])), (qu, .inr (1, [.int 0, .ref (D.2 50 0), .int 0])), (qs, .inr (1, [.int 0, .ref (D.2 50 0), .int 0])), (qc, .inr (1, [.int 0, .ref (D.2 50 0), .int 0])), (qp, .inl (cM, 7, .inl fm)), (qd, .inl (cD, 1, .inr (.inr (.inr (.inl (fun _ => 0)))))), (h0, .inr (6, [.ref hu, .ref hs, .ref hc, .ref hp, .ref hg, .int 0, .int 0, .int 0, .int 0, .int 0])), (qo, .inl (cJ, 1, .inr (.inl (fun _ => 0))))] H1 := hP
      have hD : va_D A [(hu, .inl (cU, 10, .inr (.inr (.inr (.inr fu))))), (u0, .inr (5, [.ref ul, .int 0, .int 0, .int 45, .int 0, .int 0, .int (-1)])), (hc, .inl (cC, 4, .inr (.inr (.inr (.inr fc))))), (w0, .inr (2, [.int 100, .int (-1)])), (hp, .inl (cP, 7, .inl fp)), (hg, .inr (3, [.ref go, .ref gs, .ref ge, .ref gb, .int 0, .int 0, .int 0, .int 0])), (gs, .inl (cS, 10, .inl (fun _ => 0))), (gb, .inl (cB, 10, .inl (fun _ => 0))), (m0, .inr (10, [.int 0, .ref qu, .ref qs, .ref qc, .ref qp, .int 0, .int (-1), .int 0, .null])), (qu, .inr (1, [.int 0, .ref (D.2 50 0), .int 0])), (qs, .inr (1, [.int 0, .ref (D.2 50 0), .int 0])), (qc, .inr (1, [.int 0, .ref (D.2 50 0), .int 0])), (qp, .inl (cM, 7, .inl fm)), (qd, .inl (cD, 1, .inr (.inr (.inr (.inl (fun _ => 0)))))), (h0, .inr (6, [.ref hu, .ref hs, .ref hc, .ref hp, .ref hg, .int 0, .int 0, .int 0, .int 0, .int 0])), (qo, .inl (cJ, 1, .inr (.inl (fun _ => 0))))] := hD
      have hK : va_K D vwCl [(cU, .object RX3), (cC, .object RX0), (cP, .int), (cS, .int), (cB, .int), (cM, .int), (cD, .double), (cJ, .long)] s := hK
      clear hS1
      obtain rfl : r_15 = 1 := hw_15
      refine lv_istore (lv' := [(6, .int 1), (5, .int 0), (4, .ref qd), (3, .ref qo), (2, .ref m0), (1, .ref h0), (0, .ref b)]) hx hb dL_law_909 hl (by decide) rfl (fun ls hl => ?_)
      refine lv_aload_n hx hb dL_law_911 rfl (lv_at hl 4 rfl) ?_
      refine lv_aload_n hx hb dL_law_912 rfl (lv_at hl 6 rfl) ?_
      refine lv_iload hx hb dL_law_913 (lv_at hl 1 rfl) ?_
      refine lv_iconst (v := 1) hx hb dL_law_915 (by decide) ?_
      refine lv_iadd hx hb dL_law_916 ?_
      refine lv_topi (fun x_16 ex_16 => ?_)
      obtain rfl : x_16 = 1 := ex_16.trans (by first | rfl | decide | simp)
      refine va_sld (i := 1) hx hb hXs hbl hbA hS (by rw [hL7]; unfold vp_in; decide) dL_law_917 ?_
      refine lv_topi (fun a_17 ea_17 => ?_)
      obtain rfl : a_2 = a_17 := ea_2.trans ea_17.symm
      refine lv_aload_n hx hb dL_law_918 rfl (lv_at hl 6 rfl) ?_
      refine lv_iload hx hb dL_law_919 (lv_at hl 1 rfl) ?_
      refine lv_iconst (v := 2) hx hb dL_law_921 (by decide) ?_
      refine lv_iadd hx hb dL_law_922 ?_
      refine lv_topi (fun x_18 ex_18 => ?_)
      obtain rfl : x_18 = 2 := ex_18.trans (by first | rfl | decide | simp)
      refine va_sld (i := 2) hx hb hXs hbl hbA hS (by rw [hL7]; unfold vp_in; decide) dL_law_923 ?_
      refine lv_topi (fun a_19 ea_19 => ?_)
      obtain rfl : a_4 = a_19 := ea_4.trans ea_19.symm
      refine lv_aload_n hx hb dL_law_924 rfl (lv_at hl 6 rfl) ?_
      refine lv_iload hx hb dL_law_925 (lv_at hl 1 rfl) ?_
      refine lv_iconst (v := 3) hx hb dL_law_927 (by decide) ?_
      refine lv_iadd hx hb dL_law_928 ?_
      refine lv_topi (fun x_20 ex_20 => ?_)
      obtain rfl : x_20 = 3 := ex_20.trans (by first | rfl | decide | simp)
      refine va_sld (i := 3) hx hb hXs hbl hbA hS (by rw [hL7]; unfold vp_in; decide) dL_law_929 ?_
      refine lv_topi (fun a_21 ea_21 => ?_)
      obtain rfl : a_6 = a_21 := ea_6.trans ea_21.symm
      refine lv_aload_n hx hb dL_law_930 rfl (lv_at hl 6 rfl) ?_
      refine lv_iload hx hb dL_law_931 (lv_at hl 1 rfl) ?_
      refine lv_iconst (v := 4) hx hb dL_law_933 (by decide) ?_
      refine lv_iadd hx hb dL_law_934 ?_
      refine lv_topi (fun x_22 ex_22 => ?_)
      obtain rfl : x_22 = 4 := ex_22.trans (by first | rfl | decide | simp)
      refine va_sld (i := 4) hx hb hXs hbl hbA hS (by rw [hL7]; unfold vp_in; decide) dL_law_935 ?_
      refine lv_topi (fun a_23 ea_23 => ?_)
      obtain rfl : a_8 = a_23 := ea_8.trans ea_23.symm
      refine lv_if_eq (tgt := 943) hx hb dL_law_936 (by decide) (fun c_24 => ?_) (fun c_24 => ?_)
      · refine lv_iconst (v := 0) hx hb dL_law_943 (by decide) ?_
        refine lv_aload_n hx hb dL_law_944 rfl (lv_at hl 6 rfl) ?_
        refine lv_iload hx hb dL_law_945 (lv_at hl 1 rfl) ?_
        refine lv_iconst (v := 5) hx hb dL_law_947 (by decide) ?_
        refine lv_iadd hx hb dL_law_948 ?_
        refine lv_topi (fun x_25 ex_25 => ?_)
        obtain rfl : x_25 = 5 := ex_25.trans (by first | rfl | decide | simp)
        refine va_sld (i := 5) hx hb hXs hbl hbA hS (by rw [hL7]; unfold vp_in; decide) dL_law_949 ?_
        refine lv_topi (fun a_26 ea_26 => ?_)
        obtain rfl : a_11 = a_26 := ea_11.trans ea_26.symm
        refine lv_aload_n hx hb dL_law_950 rfl (lv_at hl 6 rfl) ?_
        refine lv_iload hx hb dL_law_951 (lv_at hl 1 rfl) ?_
        refine lv_bipush (v := 6) hx hb dL_law_953 (by decide) ?_
        refine lv_iadd hx hb dL_law_955 ?_
        refine lv_topi (fun x_27 ex_27 => ?_)
        obtain rfl : x_27 = 6 := ex_27.trans (by first | rfl | decide | simp)
        refine va_sld (i := 6) hx hb hXs hbl hbA hS (by rw [hL7]; unfold vp_in; decide) dL_law_956 ?_
        refine lv_topi (fun a_28 ea_28 => ?_)
        obtain rfl : a_13 = a_28 := ea_13.trans ea_28.symm
        obtain ⟨hb_29, hc_29⟩ := z_call (wc := [(m0, .inr (10, [.int 0, .ref qu, .ref qs, .ref qc, .ref qp, .int 0, .int (-1), .int 0, .null])), (qu, .inr (1, [.int 0, .ref (D.2 50 0), .int 0]))]) (tc := []) ([.ref m0, .int a_2, .int a_4, .int a_6, .int 0, .int a_11, .int a_13]) hP hK hD hS hA hE hX [8, 9] rfl rfl [] rfl
        have hF_29 := va_free (wc := [(m0, .inr (10, [.int 0, .ref qu, .ref qs, .ref qc, .ref qp, .int 0, .int (-1), .int 0, .null])), (qu, .inr (1, [.int 0, .ref (D.2 50 0), .int 0]))]) hD hS hA [8, 9] rfl
        refine va_calli (va_runV (As := [.int a_2, .int a_4, .int a_6, .int 0, .int a_11, .int a_13]) (rest := []) ⟨hx, hb, hml, hown, hts⟩ (f_X8_addShop l D m0 qu qs qc qp 0 (D.2 50 0) a_2 a_4 a_6 0 a_11 a_13 _ ) (z_cV 6 hE zw_1392 zw_1393 zw_1394 zw_96 zw_1395 rfl rfl rfl (by decide +kernel) ⟨(Nat.le_of_ble_eq_true rfl), (Nat.le_of_ble_eq_true rfl)⟩) ⟨hb_29, va_recv hK hP (ci := 10) (q0 := 8) rfl rfl, hc_29⟩ rfl rfl hl.1 rfl (lv_room (Nat.le_of_ble_eq_true rfl)) dL_law_957 ⟨(Nat.le_of_ble_eq_true rfl), (Nat.le_of_ble_eq_true rfl)⟩) hS (fun q _ h => hF_29 q h) hF_29 (fun r_29 u_29 t_29 H1 locs ht_29 hvm_29 hw_29 hB_29 hz_29 hk_29 hS1 => ?_)
        obtain ⟨hP, hK, hD⟩ := z_back (wc := [(m0, .inr (10, [.int 0, .ref qu, .ref qs, .ref qc, .ref qp, .int 0, .int (-1), .int 0, .null])), (qu, .inr (1, [.int 0, .ref (D.2 50 0), .int 0]))]) (wr := [(hu, .inl (cU, 10, .inr (.inr (.inr (.inr fu))))), (u0, .inr (5, [.ref ul, .int 0, .int 0, .int 45, .int 0, .int 0, .int (-1)])), (hc, .inl (cC, 4, .inr (.inr (.inr (.inr fc))))), (w0, .inr (2, [.int 100, .int (-1)])), (hp, .inl (cP, 7, .inl fp)), (hg, .inr (3, [.ref go, .ref gs, .ref ge, .ref gb, .int 0, .int 0, .int 0, .int 0])), (gs, .inl (cS, 10, .inl (fun _ => 0))), (gb, .inl (cB, 10, .inl (fun _ => 0))), (qs, .inr (1, [.int 0, .ref (D.2 50 0), .int 0])), (qc, .inr (1, [.int 0, .ref (D.2 50 0), .int 0])), (qp, .inl (cM, 7, .inl fm)), (qd, .inl (cD, 1, .inr (.inr (.inr (.inl (fun _ => 0)))))), (h0, .inr (6, [.ref hu, .ref hs, .ref hc, .ref hp, .ref hg, .int 0, .int 0, .int 0, .int 0, .int 0])), (qo, .inl (cJ, 1, .inr (.inl (fun _ => 0))))]) (w1 := [(m0, .inr (10, [.int 1, .ref qu, .ref qs, .ref qc, .ref qp, .int 0, .int (-1), .int 0, .null])), (qu, .inr (1, [.int 0, .ref (D.2 50 0), .int 0]))]) (tr := [(cU, .object RX3), (cC, .object RX0), (cP, .int), (cS, .int), (cB, .int), (cM, .int), (cD, .double), (cJ, .long)]) hP hK hD [8, 9] [0, 1, 2, 3, 4, 5, 6, 7, 10, 11, 12, 13, 14, 15] rfl rfl rfl (by decide) ht_29 hvm_29 hk_29 hF_29 [0, 1, 2, 3, 4, 5, 6, 7] rfl hB_29
        have hS := hS1
        have hP : va_P D vwCl [(hu, .inl (cU, 10, .inr (.inr (.inr (.inr fu))))), (u0, .inr (5, [.ref ul, .int 0, .int 0, .int 45, .int 0, .int 0, .int (-1)])), (hc, .inl (cC, 4, .inr (.inr (.inr (.inr fc))))), (w0, .inr (2, [.int 100, .int (-1)])), (hp, .inl (cP, 7, .inl fp)), (hg, .inr (3, [.ref go, .ref gs, .ref ge, .ref gb, .int 0, .int 0, .int 0, .int 0])), (gs, .inl (cS, 10, .inl (fun _ => 0))), (gb, .inl (cB, 10, .inl (fun _ => 0))), (qs, .inr (1, [.int 0, .ref (D.2 50 0), .int 0])), (qc, .inr (1, [.int 0, .ref (D.2 50 0), .int 0])), (qp, .inl (cM, 7, .inl fm)), (qd, .inl (cD, 1, .inr (.inr (.inr (.inl (fun _ => 0)))))), (h0, .inr (6, [.ref hu, .ref hs, .ref hc, .ref hp, .ref hg, .int 0, .int 0, .int 0, .int 0, .int 0])), (qo, .inl (cJ, 1, .inr (.inl (fun _ => 0)))), (m0, .inr (10, [.int 1, .ref qu, .ref qs, .ref qc, .ref qp, .int 0, .int (-1), .int 0, .null])), (qu, .inr (1, [.int 0, .ref (D.2 50 0), .int 0]))] H1 := hP
        have hD : va_D A [(hu, .inl (cU, 10, .inr (.inr (.inr (.inr fu))))), (u0, .inr (5, [.ref ul, .int 0, .int 0, .int 45, .int 0, .int 0, .int (-1)])), (hc, .inl (cC, 4, .inr (.inr (.inr (.inr fc))))), (w0, .inr (2, [.int 100, .int (-1)])), (hp, .inl (cP, 7, .inl fp)), (hg, .inr (3, [.ref go, .ref gs, .ref ge, .ref gb, .int 0, .int 0, .int 0, .int 0])), (gs, .inl (cS, 10, .inl (fun _ => 0))), (gb, .inl (cB, 10, .inl (fun _ => 0))), (qs, .inr (1, [.int 0, .ref (D.2 50 0), .int 0])), (qc, .inr (1, [.int 0, .ref (D.2 50 0), .int 0])), (qp, .inl (cM, 7, .inl fm)), (qd, .inl (cD, 1, .inr (.inr (.inr (.inl (fun _ => 0)))))), (h0, .inr (6, [.ref hu, .ref hs, .ref hc, .ref hp, .ref hg, .int 0, .int 0, .int 0, .int 0, .int 0])), (qo, .inl (cJ, 1, .inr (.inl (fun _ => 0)))), (m0, .inr (10, [.int 1, .ref qu, .ref qs, .ref qc, .ref qp, .int 0, .int (-1), .int 0, .null])), (qu, .inr (1, [.int 0, .ref (D.2 50 0), .int 0]))] := hD
        have hK : va_K D vwCl [(cU, .object RX3), (cC, .object RX0), (cP, .int), (cS, .int), (cB, .int), (cM, .int), (cD, .double), (cJ, .long)] s := hK
        clear hS1
        refine lv_istore (lv' := [(7, .int r_29), (6, .int 1), (5, .int 0), (4, .ref qd), (3, .ref qo), (2, .ref m0), (1, .ref h0), (0, .ref b)]) hx hb dL_law_960 hl (by decide) rfl (fun ls hl => ?_)
        refine lv_aload_n hx hb dL_law_962 rfl (lv_at hl 5 rfl) ?_
        obtain ⟨hb_30, hc_30⟩ := z_call (wc := [(m0, .inr (10, [.int 1, .ref qu, .ref qs, .ref qc, .ref qp, .int 0, .int (-1), .int 0, .null]))]) (tc := []) ([.ref m0]) hP hK hD hS hA hE hX [14] rfl rfl [] rfl
        have hF_30 := va_free (wc := [(m0, .inr (10, [.int 1, .ref qu, .ref qs, .ref qc, .ref qp, .int 0, .int (-1), .int 0, .null]))]) hD hS hA [14] rfl
        refine va_calli (va_runV (As := []) (rest := []) ⟨hx, hb, hml, hown, hts⟩ (c_X8_thrown l D m0 qu qs qc qp 1 0 (-1) 0 .null _ ) (z_cV 0 hE zw_1108 zw_1109 zw_1110 zw_96 zw_1111 rfl rfl rfl (by decide +kernel) ⟨(Nat.le_of_ble_eq_true rfl), (Nat.le_of_ble_eq_true rfl)⟩) ⟨hb_30, va_recv hK hP (ci := 10) (q0 := 14) rfl rfl, hc_30⟩ rfl rfl hl.1 rfl (lv_room (Nat.le_of_ble_eq_true rfl)) dL_law_963 ⟨(Nat.le_of_ble_eq_true rfl), (Nat.le_of_ble_eq_true rfl)⟩) hS (fun q _ h => hF_30 q h) hF_30 (fun r_30 u_30 t_30 H1 locs ht_30 hvm_30 hw_30 hB_30 hz_30 hk_30 hS1 => ?_)
        obtain ⟨hP, hK, hD⟩ := z_back (wc := [(m0, .inr (10, [.int 1, .ref qu, .ref qs, .ref qc, .ref qp, .int 0, .int (-1), .int 0, .null]))]) (wr := [(hu, .inl (cU, 10, .inr (.inr (.inr (.inr fu))))), (u0, .inr (5, [.ref ul, .int 0, .int 0, .int 45, .int 0, .int 0, .int (-1)])), (hc, .inl (cC, 4, .inr (.inr (.inr (.inr fc))))), (w0, .inr (2, [.int 100, .int (-1)])), (hp, .inl (cP, 7, .inl fp)), (hg, .inr (3, [.ref go, .ref gs, .ref ge, .ref gb, .int 0, .int 0, .int 0, .int 0])), (gs, .inl (cS, 10, .inl (fun _ => 0))), (gb, .inl (cB, 10, .inl (fun _ => 0))), (qs, .inr (1, [.int 0, .ref (D.2 50 0), .int 0])), (qc, .inr (1, [.int 0, .ref (D.2 50 0), .int 0])), (qp, .inl (cM, 7, .inl fm)), (qd, .inl (cD, 1, .inr (.inr (.inr (.inl (fun _ => 0)))))), (h0, .inr (6, [.ref hu, .ref hs, .ref hc, .ref hp, .ref hg, .int 0, .int 0, .int 0, .int 0, .int 0])), (qo, .inl (cJ, 1, .inr (.inl (fun _ => 0)))), (qu, .inr (1, [.int 0, .ref (D.2 50 0), .int 0]))]) (w1 := [(m0, .inr (10, [.int 1, .ref qu, .ref qs, .ref qc, .ref qp, .int 0, .int (-1), .int 0, .null]))]) (tr := [(cU, .object RX3), (cC, .object RX0), (cP, .int), (cS, .int), (cB, .int), (cM, .int), (cD, .double), (cJ, .long)]) hP hK hD [14] [0, 1, 2, 3, 4, 5, 6, 7, 8, 9, 10, 11, 12, 13, 15] rfl rfl rfl (by decide) ht_30 hvm_30 hk_30 hF_30 [0, 1, 2, 3, 4, 5, 6, 7] rfl hB_30
        have hS := hS1
        have hP : va_P D vwCl [(hu, .inl (cU, 10, .inr (.inr (.inr (.inr fu))))), (u0, .inr (5, [.ref ul, .int 0, .int 0, .int 45, .int 0, .int 0, .int (-1)])), (hc, .inl (cC, 4, .inr (.inr (.inr (.inr fc))))), (w0, .inr (2, [.int 100, .int (-1)])), (hp, .inl (cP, 7, .inl fp)), (hg, .inr (3, [.ref go, .ref gs, .ref ge, .ref gb, .int 0, .int 0, .int 0, .int 0])), (gs, .inl (cS, 10, .inl (fun _ => 0))), (gb, .inl (cB, 10, .inl (fun _ => 0))), (qs, .inr (1, [.int 0, .ref (D.2 50 0), .int 0])), (qc, .inr (1, [.int 0, .ref (D.2 50 0), .int 0])), (qp, .inl (cM, 7, .inl fm)), (qd, .inl (cD, 1, .inr (.inr (.inr (.inl (fun _ => 0)))))), (h0, .inr (6, [.ref hu, .ref hs, .ref hc, .ref hp, .ref hg, .int 0, .int 0, .int 0, .int 0, .int 0])), (qo, .inl (cJ, 1, .inr (.inl (fun _ => 0)))), (qu, .inr (1, [.int 0, .ref (D.2 50 0), .int 0])), (m0, .inr (10, [.int 1, .ref qu, .ref qs, .ref qc, .ref qp, .int 0, .int (-1), .int 0, .null]))] H1 := hP
        have hD : va_D A [(hu, .inl (cU, 10, .inr (.inr (.inr (.inr fu))))), (u0, .inr (5, [.ref ul, .int 0, .int 0, .int 45, .int 0, .int 0, .int (-1)])), (hc, .inl (cC, 4, .inr (.inr (.inr (.inr fc))))), (w0, .inr (2, [.int 100, .int (-1)])), (hp, .inl (cP, 7, .inl fp)), (hg, .inr (3, [.ref go, .ref gs, .ref ge, .ref gb, .int 0, .int 0, .int 0, .int 0])), (gs, .inl (cS, 10, .inl (fun _ => 0))), (gb, .inl (cB, 10, .inl (fun _ => 0))), (qs, .inr (1, [.int 0, .ref (D.2 50 0), .int 0])), (qc, .inr (1, [.int 0, .ref (D.2 50 0), .int 0])), (qp, .inl (cM, 7, .inl fm)), (qd, .inl (cD, 1, .inr (.inr (.inr (.inl (fun _ => 0)))))), (h0, .inr (6, [.ref hu, .ref hs, .ref hc, .ref hp, .ref hg, .int 0, .int 0, .int 0, .int 0, .int 0])), (qo, .inl (cJ, 1, .inr (.inl (fun _ => 0)))), (qu, .inr (1, [.int 0, .ref (D.2 50 0), .int 0])), (m0, .inr (10, [.int 1, .ref qu, .ref qs, .ref qc, .ref qp, .int 0, .int (-1), .int 0, .null]))] := hD
        have hK : va_K D vwCl [(cU, .object RX3), (cC, .object RX0), (cP, .int), (cS, .int), (cB, .int), (cM, .int), (cD, .double), (cJ, .long)] s := hK
        clear hS1
        obtain rfl : r_30 = 1 := hw_30
        refine lv_iload hx hb dL_law_966 (lv_at hl 1 rfl) ?_
        refine lv_icmp_eq (tgt := 973) hx hb dL_law_968 (by decide) (fun c_31 => ?_) (fun c_31 => absurd (by decide) c_31)
        refine lv_iload hx hb dL_law_973 (lv_at hl 1 rfl) ?_
        refine lv_if_ne (tgt := 990) hx hb dL_law_975 (by decide) (fun c_32 => ?_) (fun c_32 => absurd c_32 (by decide))
        refine lv_goto (tgt := 2663) hx hb dL_law_990 (by decide) ?_
        exact law_end C0 hL7 hAF hbA hS (lv_sub (l' := [(5, .int 0), (0, .ref b)]) hl [2, 7] rfl) (Nat.le_of_ble_eq_true rfl) (Nat.le_of_ble_eq_true rfl)
      · refine lv_iconst (v := 1) hx hb dL_law_939 (by decide) ?_
        refine lv_goto (tgt := 944) hx hb dL_law_940 (by decide) ?_
        refine lv_aload_n hx hb dL_law_944 rfl (lv_at hl 6 rfl) ?_
        refine lv_iload hx hb dL_law_945 (lv_at hl 1 rfl) ?_
        refine lv_iconst (v := 5) hx hb dL_law_947 (by decide) ?_
        refine lv_iadd hx hb dL_law_948 ?_
        refine lv_topi (fun x_25 ex_25 => ?_)
        obtain rfl : x_25 = 5 := ex_25.trans (by first | rfl | decide | simp)
        refine va_sld (i := 5) hx hb hXs hbl hbA hS (by rw [hL7]; unfold vp_in; decide) dL_law_949 ?_
        refine lv_topi (fun a_26 ea_26 => ?_)
        obtain rfl : a_11 = a_26 := ea_11.trans ea_26.symm
        refine lv_aload_n hx hb dL_law_950 rfl (lv_at hl 6 rfl) ?_
        refine lv_iload hx hb dL_law_951 (lv_at hl 1 rfl) ?_
        refine lv_bipush (v := 6) hx hb dL_law_953 (by decide) ?_
        refine lv_iadd hx hb dL_law_955 ?_
        refine lv_topi (fun x_27 ex_27 => ?_)
        obtain rfl : x_27 = 6 := ex_27.trans (by first | rfl | decide | simp)
        refine va_sld (i := 6) hx hb hXs hbl hbA hS (by rw [hL7]; unfold vp_in; decide) dL_law_956 ?_
        refine lv_topi (fun a_28 ea_28 => ?_)
        obtain rfl : a_13 = a_28 := ea_13.trans ea_28.symm
        obtain ⟨hb_29, hc_29⟩ := z_call (wc := [(m0, .inr (10, [.int 0, .ref qu, .ref qs, .ref qc, .ref qp, .int 0, .int (-1), .int 0, .null])), (qu, .inr (1, [.int 0, .ref (D.2 50 0), .int 0]))]) (tc := []) ([.ref m0, .int a_2, .int a_4, .int a_6, .int 1, .int a_11, .int a_13]) hP hK hD hS hA hE hX [8, 9] rfl rfl [] rfl
        have hF_29 := va_free (wc := [(m0, .inr (10, [.int 0, .ref qu, .ref qs, .ref qc, .ref qp, .int 0, .int (-1), .int 0, .null])), (qu, .inr (1, [.int 0, .ref (D.2 50 0), .int 0]))]) hD hS hA [8, 9] rfl
        refine va_calli (va_runV (As := [.int a_2, .int a_4, .int a_6, .int 1, .int a_11, .int a_13]) (rest := []) ⟨hx, hb, hml, hown, hts⟩ (f_X8_addShop l D m0 qu qs qc qp 0 (D.2 50 0) a_2 a_4 a_6 1 a_11 a_13 _ ) (z_cV 6 hE zw_1392 zw_1393 zw_1394 zw_96 zw_1395 rfl rfl rfl (by decide +kernel) ⟨(Nat.le_of_ble_eq_true rfl), (Nat.le_of_ble_eq_true rfl)⟩) ⟨hb_29, va_recv hK hP (ci := 10) (q0 := 8) rfl rfl, hc_29⟩ rfl rfl hl.1 rfl (lv_room (Nat.le_of_ble_eq_true rfl)) dL_law_957 ⟨(Nat.le_of_ble_eq_true rfl), (Nat.le_of_ble_eq_true rfl)⟩) hS (fun q _ h => hF_29 q h) hF_29 (fun r_29 u_29 t_29 H1 locs ht_29 hvm_29 hw_29 hB_29 hz_29 hk_29 hS1 => ?_)
        obtain ⟨hP, hK, hD⟩ := z_back (wc := [(m0, .inr (10, [.int 0, .ref qu, .ref qs, .ref qc, .ref qp, .int 0, .int (-1), .int 0, .null])), (qu, .inr (1, [.int 0, .ref (D.2 50 0), .int 0]))]) (wr := [(hu, .inl (cU, 10, .inr (.inr (.inr (.inr fu))))), (u0, .inr (5, [.ref ul, .int 0, .int 0, .int 45, .int 0, .int 0, .int (-1)])), (hc, .inl (cC, 4, .inr (.inr (.inr (.inr fc))))), (w0, .inr (2, [.int 100, .int (-1)])), (hp, .inl (cP, 7, .inl fp)), (hg, .inr (3, [.ref go, .ref gs, .ref ge, .ref gb, .int 0, .int 0, .int 0, .int 0])), (gs, .inl (cS, 10, .inl (fun _ => 0))), (gb, .inl (cB, 10, .inl (fun _ => 0))), (qs, .inr (1, [.int 0, .ref (D.2 50 0), .int 0])), (qc, .inr (1, [.int 0, .ref (D.2 50 0), .int 0])), (qp, .inl (cM, 7, .inl fm)), (qd, .inl (cD, 1, .inr (.inr (.inr (.inl (fun _ => 0)))))), (h0, .inr (6, [.ref hu, .ref hs, .ref hc, .ref hp, .ref hg, .int 0, .int 0, .int 0, .int 0, .int 0])), (qo, .inl (cJ, 1, .inr (.inl (fun _ => 0))))]) (w1 := [(m0, .inr (10, [.int 1, .ref qu, .ref qs, .ref qc, .ref qp, .int 0, .int (-1), .int 0, .null])), (qu, .inr (1, [.int 0, .ref (D.2 50 0), .int 0]))]) (tr := [(cU, .object RX3), (cC, .object RX0), (cP, .int), (cS, .int), (cB, .int), (cM, .int), (cD, .double), (cJ, .long)]) hP hK hD [8, 9] [0, 1, 2, 3, 4, 5, 6, 7, 10, 11, 12, 13, 14, 15] rfl rfl rfl (by decide) ht_29 hvm_29 hk_29 hF_29 [0, 1, 2, 3, 4, 5, 6, 7] rfl hB_29
        have hS := hS1
        have hP : va_P D vwCl [(hu, .inl (cU, 10, .inr (.inr (.inr (.inr fu))))), (u0, .inr (5, [.ref ul, .int 0, .int 0, .int 45, .int 0, .int 0, .int (-1)])), (hc, .inl (cC, 4, .inr (.inr (.inr (.inr fc))))), (w0, .inr (2, [.int 100, .int (-1)])), (hp, .inl (cP, 7, .inl fp)), (hg, .inr (3, [.ref go, .ref gs, .ref ge, .ref gb, .int 0, .int 0, .int 0, .int 0])), (gs, .inl (cS, 10, .inl (fun _ => 0))), (gb, .inl (cB, 10, .inl (fun _ => 0))), (qs, .inr (1, [.int 0, .ref (D.2 50 0), .int 0])), (qc, .inr (1, [.int 0, .ref (D.2 50 0), .int 0])), (qp, .inl (cM, 7, .inl fm)), (qd, .inl (cD, 1, .inr (.inr (.inr (.inl (fun _ => 0)))))), (h0, .inr (6, [.ref hu, .ref hs, .ref hc, .ref hp, .ref hg, .int 0, .int 0, .int 0, .int 0, .int 0])), (qo, .inl (cJ, 1, .inr (.inl (fun _ => 0)))), (m0, .inr (10, [.int 1, .ref qu, .ref qs, .ref qc, .ref qp, .int 0, .int (-1), .int 0, .null])), (qu, .inr (1, [.int 0, .ref (D.2 50 0), .int 0]))] H1 := hP
        have hD : va_D A [(hu, .inl (cU, 10, .inr (.inr (.inr (.inr fu))))), (u0, .inr (5, [.ref ul, .int 0, .int 0, .int 45, .int 0, .int 0, .int (-1)])), (hc, .inl (cC, 4, .inr (.inr (.inr (.inr fc))))), (w0, .inr (2, [.int 100, .int (-1)])), (hp, .inl (cP, 7, .inl fp)), (hg, .inr (3, [.ref go, .ref gs, .ref ge, .ref gb, .int 0, .int 0, .int 0, .int 0])), (gs, .inl (cS, 10, .inl (fun _ => 0))), (gb, .inl (cB, 10, .inl (fun _ => 0))), (qs, .inr (1, [.int 0, .ref (D.2 50 0), .int 0])), (qc, .inr (1, [.int 0, .ref (D.2 50 0), .int 0])), (qp, .inl (cM, 7, .inl fm)), (qd, .inl (cD, 1, .inr (.inr (.inr (.inl (fun _ => 0)))))), (h0, .inr (6, [.ref hu, .ref hs, .ref hc, .ref hp, .ref hg, .int 0, .int 0, .int 0, .int 0, .int 0])), (qo, .inl (cJ, 1, .inr (.inl (fun _ => 0)))), (m0, .inr (10, [.int 1, .ref qu, .ref qs, .ref qc, .ref qp, .int 0, .int (-1), .int 0, .null])), (qu, .inr (1, [.int 0, .ref (D.2 50 0), .int 0]))] := hD
        have hK : va_K D vwCl [(cU, .object RX3), (cC, .object RX0), (cP, .int), (cS, .int), (cB, .int), (cM, .int), (cD, .double), (cJ, .long)] s := hK
        clear hS1
        refine lv_istore (lv' := [(7, .int r_29), (6, .int 1), (5, .int 0), (4, .ref qd), (3, .ref qo), (2, .ref m0), (1, .ref h0), (0, .ref b)]) hx hb dL_law_960 hl (by decide) rfl (fun ls hl => ?_)
        refine lv_aload_n hx hb dL_law_962 rfl (lv_at hl 5 rfl) ?_
        obtain ⟨hb_30, hc_30⟩ := z_call (wc := [(m0, .inr (10, [.int 1, .ref qu, .ref qs, .ref qc, .ref qp, .int 0, .int (-1), .int 0, .null]))]) (tc := []) ([.ref m0]) hP hK hD hS hA hE hX [14] rfl rfl [] rfl
        have hF_30 := va_free (wc := [(m0, .inr (10, [.int 1, .ref qu, .ref qs, .ref qc, .ref qp, .int 0, .int (-1), .int 0, .null]))]) hD hS hA [14] rfl
        refine va_calli (va_runV (As := []) (rest := []) ⟨hx, hb, hml, hown, hts⟩ (c_X8_thrown l D m0 qu qs qc qp 1 0 (-1) 0 .null _ ) (z_cV 0 hE zw_1108 zw_1109 zw_1110 zw_96 zw_1111 rfl rfl rfl (by decide +kernel) ⟨(Nat.le_of_ble_eq_true rfl), (Nat.le_of_ble_eq_true rfl)⟩) ⟨hb_30, va_recv hK hP (ci := 10) (q0 := 14) rfl rfl, hc_30⟩ rfl rfl hl.1 rfl (lv_room (Nat.le_of_ble_eq_true rfl)) dL_law_963 ⟨(Nat.le_of_ble_eq_true rfl), (Nat.le_of_ble_eq_true rfl)⟩) hS (fun q _ h => hF_30 q h) hF_30 (fun r_30 u_30 t_30 H1 locs ht_30 hvm_30 hw_30 hB_30 hz_30 hk_30 hS1 => ?_)
        obtain ⟨hP, hK, hD⟩ := z_back (wc := [(m0, .inr (10, [.int 1, .ref qu, .ref qs, .ref qc, .ref qp, .int 0, .int (-1), .int 0, .null]))]) (wr := [(hu, .inl (cU, 10, .inr (.inr (.inr (.inr fu))))), (u0, .inr (5, [.ref ul, .int 0, .int 0, .int 45, .int 0, .int 0, .int (-1)])), (hc, .inl (cC, 4, .inr (.inr (.inr (.inr fc))))), (w0, .inr (2, [.int 100, .int (-1)])), (hp, .inl (cP, 7, .inl fp)), (hg, .inr (3, [.ref go, .ref gs, .ref ge, .ref gb, .int 0, .int 0, .int 0, .int 0])), (gs, .inl (cS, 10, .inl (fun _ => 0))), (gb, .inl (cB, 10, .inl (fun _ => 0))), (qs, .inr (1, [.int 0, .ref (D.2 50 0), .int 0])), (qc, .inr (1, [.int 0, .ref (D.2 50 0), .int 0])), (qp, .inl (cM, 7, .inl fm)), (qd, .inl (cD, 1, .inr (.inr (.inr (.inl (fun _ => 0)))))), (h0, .inr (6, [.ref hu, .ref hs, .ref hc, .ref hp, .ref hg, .int 0, .int 0, .int 0, .int 0, .int 0])), (qo, .inl (cJ, 1, .inr (.inl (fun _ => 0)))), (qu, .inr (1, [.int 0, .ref (D.2 50 0), .int 0]))]) (w1 := [(m0, .inr (10, [.int 1, .ref qu, .ref qs, .ref qc, .ref qp, .int 0, .int (-1), .int 0, .null]))]) (tr := [(cU, .object RX3), (cC, .object RX0), (cP, .int), (cS, .int), (cB, .int), (cM, .int), (cD, .double), (cJ, .long)]) hP hK hD [14] [0, 1, 2, 3, 4, 5, 6, 7, 8, 9, 10, 11, 12, 13, 15] rfl rfl rfl (by decide) ht_30 hvm_30 hk_30 hF_30 [0, 1, 2, 3, 4, 5, 6, 7] rfl hB_30
        have hS := hS1
        have hP : va_P D vwCl [(hu, .inl (cU, 10, .inr (.inr (.inr (.inr fu))))), (u0, .inr (5, [.ref ul, .int 0, .int 0, .int 45, .int 0, .int 0, .int (-1)])), (hc, .inl (cC, 4, .inr (.inr (.inr (.inr fc))))), (w0, .inr (2, [.int 100, .int (-1)])), (hp, .inl (cP, 7, .inl fp)), (hg, .inr (3, [.ref go, .ref gs, .ref ge, .ref gb, .int 0, .int 0, .int 0, .int 0])), (gs, .inl (cS, 10, .inl (fun _ => 0))), (gb, .inl (cB, 10, .inl (fun _ => 0))), (qs, .inr (1, [.int 0, .ref (D.2 50 0), .int 0])), (qc, .inr (1, [.int 0, .ref (D.2 50 0), .int 0])), (qp, .inl (cM, 7, .inl fm)), (qd, .inl (cD, 1, .inr (.inr (.inr (.inl (fun _ => 0)))))), (h0, .inr (6, [.ref hu, .ref hs, .ref hc, .ref hp, .ref hg, .int 0, .int 0, .int 0, .int 0, .int 0])), (qo, .inl (cJ, 1, .inr (.inl (fun _ => 0)))), (qu, .inr (1, [.int 0, .ref (D.2 50 0), .int 0])), (m0, .inr (10, [.int 1, .ref qu, .ref qs, .ref qc, .ref qp, .int 0, .int (-1), .int 0, .null]))] H1 := hP
        have hD : va_D A [(hu, .inl (cU, 10, .inr (.inr (.inr (.inr fu))))), (u0, .inr (5, [.ref ul, .int 0, .int 0, .int 45, .int 0, .int 0, .int (-1)])), (hc, .inl (cC, 4, .inr (.inr (.inr (.inr fc))))), (w0, .inr (2, [.int 100, .int (-1)])), (hp, .inl (cP, 7, .inl fp)), (hg, .inr (3, [.ref go, .ref gs, .ref ge, .ref gb, .int 0, .int 0, .int 0, .int 0])), (gs, .inl (cS, 10, .inl (fun _ => 0))), (gb, .inl (cB, 10, .inl (fun _ => 0))), (qs, .inr (1, [.int 0, .ref (D.2 50 0), .int 0])), (qc, .inr (1, [.int 0, .ref (D.2 50 0), .int 0])), (qp, .inl (cM, 7, .inl fm)), (qd, .inl (cD, 1, .inr (.inr (.inr (.inl (fun _ => 0)))))), (h0, .inr (6, [.ref hu, .ref hs, .ref hc, .ref hp, .ref hg, .int 0, .int 0, .int 0, .int 0, .int 0])), (qo, .inl (cJ, 1, .inr (.inl (fun _ => 0)))), (qu, .inr (1, [.int 0, .ref (D.2 50 0), .int 0])), (m0, .inr (10, [.int 1, .ref qu, .ref qs, .ref qc, .ref qp, .int 0, .int (-1), .int 0, .null]))] := hD
        have hK : va_K D vwCl [(cU, .object RX3), (cC, .object RX0), (cP, .int), (cS, .int), (cB, .int), (cM, .int), (cD, .double), (cJ, .long)] s := hK
        clear hS1
        obtain rfl : r_30 = 1 := hw_30
        refine lv_iload hx hb dL_law_966 (lv_at hl 1 rfl) ?_
        refine lv_icmp_eq (tgt := 973) hx hb dL_law_968 (by decide) (fun c_31 => ?_) (fun c_31 => absurd (by decide) c_31)
        refine lv_iload hx hb dL_law_973 (lv_at hl 1 rfl) ?_
        refine lv_if_ne (tgt := 990) hx hb dL_law_975 (by decide) (fun c_32 => ?_) (fun c_32 => absurd c_32 (by decide))
        refine lv_goto (tgt := 2663) hx hb dL_law_990 (by decide) ?_
        exact law_end C0 hL7 hAF hbA hS (lv_sub (l' := [(5, .int 0), (0, .ref b)]) hl [2, 7] rfl) (Nat.le_of_ble_eq_true rfl) (Nat.le_of_ble_eq_true rfl)
  · refine lv_iconst (v := 1) hx hb dL_law_887 (by decide) ?_
    refine lv_goto (tgt := 892) hx hb dL_law_888 (by decide) ?_
    refine lv_aload_n hx hb dL_law_892 rfl (lv_at hl 5 rfl) ?_
    refine lv_iload hx hb dL_law_893 (lv_at hl 0 rfl) ?_
    refine lv_iconst (v := 5) hx hb dL_law_895 (by decide) ?_
    refine lv_iadd hx hb dL_law_896 ?_
    refine lv_topi (fun x_10 ex_10 => ?_)
    obtain rfl : x_10 = 5 := ex_10.trans (by first | rfl | decide | simp)
    refine va_sld (i := 5) hx hb hXs hbl hbA hS (by rw [hL7]; unfold vp_in; decide) dL_law_897 ?_
    refine lv_topi (fun a_11 ea_11 => ?_)
    refine lv_aload_n hx hb dL_law_898 rfl (lv_at hl 5 rfl) ?_
    refine lv_iload hx hb dL_law_899 (lv_at hl 0 rfl) ?_
    refine lv_bipush (v := 6) hx hb dL_law_901 (by decide) ?_
    refine lv_iadd hx hb dL_law_903 ?_
    refine lv_topi (fun x_12 ex_12 => ?_)
    obtain rfl : x_12 = 6 := ex_12.trans (by first | rfl | decide | simp)
    refine va_sld (i := 6) hx hb hXs hbl hbA hS (by rw [hL7]; unfold vp_in; decide) dL_law_904 ?_
    refine lv_topi (fun a_13 ea_13 => ?_)
    refine lv_aload_n hx hb dL_law_905 rfl (lv_at hl 2 rfl) ?_
    obtain ⟨hb_15, hc_15⟩ := z_call (wc := [(h0, .inr (6, [.ref hu, .ref hs, .ref hc, .ref hp, .ref hg, .int 0, .int 0, .int 0, .int 0, .int 0])), (qo, .inl (cJ, 1, .inr (.inl (fun _ => 0))))]) (tc := [(cJ, .long)]) ([.ref h0, .int a_2, .int a_4, .int a_6, .int 1, .int a_11, .int a_13, .ref qo]) hP hK hD hS hA hE hX [0, 14] rfl rfl [6] rfl
    have hF_15 := va_free (wc := [(h0, .inr (6, [.ref hu, .ref hs, .ref hc, .ref hp, .ref hg, .int 0, .int 0, .int 0, .int 0, .int 0])), (qo, .inl (cJ, 1, .inr (.inl (fun _ => 0))))]) hD hS hA [0, 14] rfl
    refine vx_calli (vx_runSX (As := [.ref h0, .int a_2, .int a_4, .int a_6, .int 1, .int a_11, .int a_13, .ref qo]) (rest := []) ⟨hx, hb, hml, hown, hts⟩ (f_L_addShop l hst D h0 hu hs hc hp hg 0 0 a_2 a_4 a_6 1 a_11 a_13 qo (fun _ => 0) cJ _ ) (z_cSW 8 hE zw_654 zw_655 zw_90 zw_656 rfl rfl rfl (by decide +kernel) ⟨(Nat.le_of_ble_eq_true rfl), (Nat.le_of_ble_eq_true rfl)⟩) ⟨hb_15, hc_15⟩ rfl rfl hl.1 rfl (lv_room (Nat.le_of_ble_eq_true rfl)) dL_law_906 ⟨(Nat.le_of_ble_eq_true rfl), (Nat.le_of_ble_eq_true rfl)⟩) hS (fun q _ h => hF_15 q h) hF_15 (fun q _ h => hF_15 q h) (fun E_15 ce_15 q9_15 u_15 t_15 H1 locs ht_15 hvm_15 hw_15 hB_15 hz_15 hk_15 hS1 hce_15 hcv_15 hcl_15 => ?_) (fun r_15 u_15 t_15 H1 locs ht_15 hvm_15 hw_15 hB_15 hz_15 hk_15 hS1 => ?_)
    · exact hw_15.elim
    · obtain ⟨hP, hK, hD⟩ := z_back (wc := [(h0, .inr (6, [.ref hu, .ref hs, .ref hc, .ref hp, .ref hg, .int 0, .int 0, .int 0, .int 0, .int 0])), (qo, .inl (cJ, 1, .inr (.inl (fun _ => 0))))]) (wr := [(hu, .inl (cU, 10, .inr (.inr (.inr (.inr fu))))), (u0, .inr (5, [.ref ul, .int 0, .int 0, .int 45, .int 0, .int 0, .int (-1)])), (hc, .inl (cC, 4, .inr (.inr (.inr (.inr fc))))), (w0, .inr (2, [.int 100, .int (-1)])), (hp, .inl (cP, 7, .inl fp)), (hg, .inr (3, [.ref go, .ref gs, .ref ge, .ref gb, .int 0, .int 0, .int 0, .int 0])), (gs, .inl (cS, 10, .inl (fun _ => 0))), (gb, .inl (cB, 10, .inl (fun _ => 0))), (m0, .inr (10, [.int 0, .ref qu, .ref qs, .ref qc, .ref qp, .int 0, .int (-1), .int 0, .null])), (qu, .inr (1, [.int 0, .ref (D.2 50 0), .int 0])), (qs, .inr (1, [.int 0, .ref (D.2 50 0), .int 0])), (qc, .inr (1, [.int 0, .ref (D.2 50 0), .int 0])), (qp, .inl (cM, 7, .inl fm)), (qd, .inl (cD, 1, .inr (.inr (.inr (.inl (fun _ => 0))))))]) (w1 := [(h0, .inr (6, [.ref hu, .ref hs, .ref hc, .ref hp, .ref hg, .int 0, .int 0, .int 0, .int 0, .int 0])), (qo, .inl (cJ, 1, .inr (.inl (fun _ => 0))))]) (tr := [(cU, .object RX3), (cC, .object RX0), (cP, .int), (cS, .int), (cB, .int), (cM, .int), (cD, .double)]) hP hK hD [0, 14] [1, 2, 3, 4, 5, 6, 7, 8, 9, 10, 11, 12, 13, 15] rfl rfl rfl (by decide) ht_15 hvm_15 hk_15 hF_15 [0, 1, 2, 3, 4, 5, 7] rfl hB_15
      have hS := hS1
      have hP : va_P D vwCl [(hu, .inl (cU, 10, .inr (.inr (.inr (.inr fu))))), (u0, .inr (5, [.ref ul, .int 0, .int 0, .int 45, .int 0, .int 0, .int (-1)])), (hc, .inl (cC, 4, .inr (.inr (.inr (.inr fc))))), (w0, .inr (2, [.int 100, .int (-1)])), (hp, .inl (cP, 7, .inl fp)), (hg, .inr (3, [.ref go, .ref gs, .ref ge, .ref gb, .int 0, .int 0, .int 0, .int 0])), (gs, .inl (cS, 10, .inl (fun _ => 0))), (gb, .inl (cB, 10, .inl (fun _ => 0))), (m0, .inr (10, [.int 0, .ref qu, .ref qs, .ref qc, .ref qp, .int 0, .int (-1), .int 0, .null])), (qu, .inr (1, [.int 0, .ref (D.2 50 0), .int 0])), (qs, .inr (1, [.int 0, .ref (D.2 50 0), .int 0])), (qc, .inr (1, [.int 0, .ref (D.2 50 0), .int 0])), (qp, .inl (cM, 7, .inl fm)), (qd, .inl (cD, 1, .inr (.inr (.inr (.inl (fun _ => 0)))))), (h0, .inr (6, [.ref hu, .ref hs, .ref hc, .ref hp, .ref hg, .int 0, .int 0, .int 0, .int 0, .int 0])), (qo, .inl (cJ, 1, .inr (.inl (fun _ => 0))))] H1 := hP
      have hD : va_D A [(hu, .inl (cU, 10, .inr (.inr (.inr (.inr fu))))), (u0, .inr (5, [.ref ul, .int 0, .int 0, .int 45, .int 0, .int 0, .int (-1)])), (hc, .inl (cC, 4, .inr (.inr (.inr (.inr fc))))), (w0, .inr (2, [.int 100, .int (-1)])), (hp, .inl (cP, 7, .inl fp)), (hg, .inr (3, [.ref go, .ref gs, .ref ge, .ref gb, .int 0, .int 0, .int 0, .int 0])), (gs, .inl (cS, 10, .inl (fun _ => 0))), (gb, .inl (cB, 10, .inl (fun _ => 0))), (m0, .inr (10, [.int 0, .ref qu, .ref qs, .ref qc, .ref qp, .int 0, .int (-1), .int 0, .null])), (qu, .inr (1, [.int 0, .ref (D.2 50 0), .int 0])), (qs, .inr (1, [.int 0, .ref (D.2 50 0), .int 0])), (qc, .inr (1, [.int 0, .ref (D.2 50 0), .int 0])), (qp, .inl (cM, 7, .inl fm)), (qd, .inl (cD, 1, .inr (.inr (.inr (.inl (fun _ => 0)))))), (h0, .inr (6, [.ref hu, .ref hs, .ref hc, .ref hp, .ref hg, .int 0, .int 0, .int 0, .int 0, .int 0])), (qo, .inl (cJ, 1, .inr (.inl (fun _ => 0))))] := hD
      have hK : va_K D vwCl [(cU, .object RX3), (cC, .object RX0), (cP, .int), (cS, .int), (cB, .int), (cM, .int), (cD, .double), (cJ, .long)] s := hK
      clear hS1
      obtain rfl : r_15 = 1 := hw_15
      refine lv_istore (lv' := [(6, .int 1), (5, .int 0), (4, .ref qd), (3, .ref qo), (2, .ref m0), (1, .ref h0), (0, .ref b)]) hx hb dL_law_909 hl (by decide) rfl (fun ls hl => ?_)
      refine lv_aload_n hx hb dL_law_911 rfl (lv_at hl 4 rfl) ?_
      refine lv_aload_n hx hb dL_law_912 rfl (lv_at hl 6 rfl) ?_
      refine lv_iload hx hb dL_law_913 (lv_at hl 1 rfl) ?_
      refine lv_iconst (v := 1) hx hb dL_law_915 (by decide) ?_
      refine lv_iadd hx hb dL_law_916 ?_
      refine lv_topi (fun x_16 ex_16 => ?_)
      obtain rfl : x_16 = 1 := ex_16.trans (by first | rfl | decide | simp)
      refine va_sld (i := 1) hx hb hXs hbl hbA hS (by rw [hL7]; unfold vp_in; decide) dL_law_917 ?_
      refine lv_topi (fun a_17 ea_17 => ?_)
      obtain rfl : a_2 = a_17 := ea_2.trans ea_17.symm
      refine lv_aload_n hx hb dL_law_918 rfl (lv_at hl 6 rfl) ?_
      refine lv_iload hx hb dL_law_919 (lv_at hl 1 rfl) ?_
      refine lv_iconst (v := 2) hx hb dL_law_921 (by decide) ?_
      refine lv_iadd hx hb dL_law_922 ?_
      refine lv_topi (fun x_18 ex_18 => ?_)
      obtain rfl : x_18 = 2 := ex_18.trans (by first | rfl | decide | simp)
      refine va_sld (i := 2) hx hb hXs hbl hbA hS (by rw [hL7]; unfold vp_in; decide) dL_law_923 ?_
      refine lv_topi (fun a_19 ea_19 => ?_)
      obtain rfl : a_4 = a_19 := ea_4.trans ea_19.symm
      refine lv_aload_n hx hb dL_law_924 rfl (lv_at hl 6 rfl) ?_
      refine lv_iload hx hb dL_law_925 (lv_at hl 1 rfl) ?_
      refine lv_iconst (v := 3) hx hb dL_law_927 (by decide) ?_
      refine lv_iadd hx hb dL_law_928 ?_
      refine lv_topi (fun x_20 ex_20 => ?_)
      obtain rfl : x_20 = 3 := ex_20.trans (by first | rfl | decide | simp)
      refine va_sld (i := 3) hx hb hXs hbl hbA hS (by rw [hL7]; unfold vp_in; decide) dL_law_929 ?_
      refine lv_topi (fun a_21 ea_21 => ?_)
      obtain rfl : a_6 = a_21 := ea_6.trans ea_21.symm
      refine lv_aload_n hx hb dL_law_930 rfl (lv_at hl 6 rfl) ?_
      refine lv_iload hx hb dL_law_931 (lv_at hl 1 rfl) ?_
      refine lv_iconst (v := 4) hx hb dL_law_933 (by decide) ?_
      refine lv_iadd hx hb dL_law_934 ?_
      refine lv_topi (fun x_22 ex_22 => ?_)
      obtain rfl : x_22 = 4 := ex_22.trans (by first | rfl | decide | simp)
      refine va_sld (i := 4) hx hb hXs hbl hbA hS (by rw [hL7]; unfold vp_in; decide) dL_law_935 ?_
      refine lv_topi (fun a_23 ea_23 => ?_)
      obtain rfl : a_8 = a_23 := ea_8.trans ea_23.symm
      refine lv_if_eq (tgt := 943) hx hb dL_law_936 (by decide) (fun c_24 => ?_) (fun c_24 => ?_)
      · refine lv_iconst (v := 0) hx hb dL_law_943 (by decide) ?_
        refine lv_aload_n hx hb dL_law_944 rfl (lv_at hl 6 rfl) ?_
        refine lv_iload hx hb dL_law_945 (lv_at hl 1 rfl) ?_
        refine lv_iconst (v := 5) hx hb dL_law_947 (by decide) ?_
        refine lv_iadd hx hb dL_law_948 ?_
        refine lv_topi (fun x_25 ex_25 => ?_)
        obtain rfl : x_25 = 5 := ex_25.trans (by first | rfl | decide | simp)
        refine va_sld (i := 5) hx hb hXs hbl hbA hS (by rw [hL7]; unfold vp_in; decide) dL_law_949 ?_
        refine lv_topi (fun a_26 ea_26 => ?_)
        obtain rfl : a_11 = a_26 := ea_11.trans ea_26.symm
        refine lv_aload_n hx hb dL_law_950 rfl (lv_at hl 6 rfl) ?_
        refine lv_iload hx hb dL_law_951 (lv_at hl 1 rfl) ?_
        refine lv_bipush (v := 6) hx hb dL_law_953 (by decide) ?_
        refine lv_iadd hx hb dL_law_955 ?_
        refine lv_topi (fun x_27 ex_27 => ?_)
        obtain rfl : x_27 = 6 := ex_27.trans (by first | rfl | decide | simp)
        refine va_sld (i := 6) hx hb hXs hbl hbA hS (by rw [hL7]; unfold vp_in; decide) dL_law_956 ?_
        refine lv_topi (fun a_28 ea_28 => ?_)
        obtain rfl : a_13 = a_28 := ea_13.trans ea_28.symm
        obtain ⟨hb_29, hc_29⟩ := z_call (wc := [(m0, .inr (10, [.int 0, .ref qu, .ref qs, .ref qc, .ref qp, .int 0, .int (-1), .int 0, .null])), (qu, .inr (1, [.int 0, .ref (D.2 50 0), .int 0]))]) (tc := []) ([.ref m0, .int a_2, .int a_4, .int a_6, .int 0, .int a_11, .int a_13]) hP hK hD hS hA hE hX [8, 9] rfl rfl [] rfl
        have hF_29 := va_free (wc := [(m0, .inr (10, [.int 0, .ref qu, .ref qs, .ref qc, .ref qp, .int 0, .int (-1), .int 0, .null])), (qu, .inr (1, [.int 0, .ref (D.2 50 0), .int 0]))]) hD hS hA [8, 9] rfl
        refine va_calli (va_runV (As := [.int a_2, .int a_4, .int a_6, .int 0, .int a_11, .int a_13]) (rest := []) ⟨hx, hb, hml, hown, hts⟩ (f_X8_addShop l D m0 qu qs qc qp 0 (D.2 50 0) a_2 a_4 a_6 0 a_11 a_13 _ ) (z_cV 6 hE zw_1392 zw_1393 zw_1394 zw_96 zw_1395 rfl rfl rfl (by decide +kernel) ⟨(Nat.le_of_ble_eq_true rfl), (Nat.le_of_ble_eq_true rfl)⟩) ⟨hb_29, va_recv hK hP (ci := 10) (q0 := 8) rfl rfl, hc_29⟩ rfl rfl hl.1 rfl (lv_room (Nat.le_of_ble_eq_true rfl)) dL_law_957 ⟨(Nat.le_of_ble_eq_true rfl), (Nat.le_of_ble_eq_true rfl)⟩) hS (fun q _ h => hF_29 q h) hF_29 (fun r_29 u_29 t_29 H1 locs ht_29 hvm_29 hw_29 hB_29 hz_29 hk_29 hS1 => ?_)
        obtain ⟨hP, hK, hD⟩ := z_back (wc := [(m0, .inr (10, [.int 0, .ref qu, .ref qs, .ref qc, .ref qp, .int 0, .int (-1), .int 0, .null])), (qu, .inr (1, [.int 0, .ref (D.2 50 0), .int 0]))]) (wr := [(hu, .inl (cU, 10, .inr (.inr (.inr (.inr fu))))), (u0, .inr (5, [.ref ul, .int 0, .int 0, .int 45, .int 0, .int 0, .int (-1)])), (hc, .inl (cC, 4, .inr (.inr (.inr (.inr fc))))), (w0, .inr (2, [.int 100, .int (-1)])), (hp, .inl (cP, 7, .inl fp)), (hg, .inr (3, [.ref go, .ref gs, .ref ge, .ref gb, .int 0, .int 0, .int 0, .int 0])), (gs, .inl (cS, 10, .inl (fun _ => 0))), (gb, .inl (cB, 10, .inl (fun _ => 0))), (qs, .inr (1, [.int 0, .ref (D.2 50 0), .int 0])), (qc, .inr (1, [.int 0, .ref (D.2 50 0), .int 0])), (qp, .inl (cM, 7, .inl fm)), (qd, .inl (cD, 1, .inr (.inr (.inr (.inl (fun _ => 0)))))), (h0, .inr (6, [.ref hu, .ref hs, .ref hc, .ref hp, .ref hg, .int 0, .int 0, .int 0, .int 0, .int 0])), (qo, .inl (cJ, 1, .inr (.inl (fun _ => 0))))]) (w1 := [(m0, .inr (10, [.int 1, .ref qu, .ref qs, .ref qc, .ref qp, .int 0, .int (-1), .int 0, .null])), (qu, .inr (1, [.int 0, .ref (D.2 50 0), .int 0]))]) (tr := [(cU, .object RX3), (cC, .object RX0), (cP, .int), (cS, .int), (cB, .int), (cM, .int), (cD, .double), (cJ, .long)]) hP hK hD [8, 9] [0, 1, 2, 3, 4, 5, 6, 7, 10, 11, 12, 13, 14, 15] rfl rfl rfl (by decide) ht_29 hvm_29 hk_29 hF_29 [0, 1, 2, 3, 4, 5, 6, 7] rfl hB_29
        have hS := hS1
        have hP : va_P D vwCl [(hu, .inl (cU, 10, .inr (.inr (.inr (.inr fu))))), (u0, .inr (5, [.ref ul, .int 0, .int 0, .int 45, .int 0, .int 0, .int (-1)])), (hc, .inl (cC, 4, .inr (.inr (.inr (.inr fc))))), (w0, .inr (2, [.int 100, .int (-1)])), (hp, .inl (cP, 7, .inl fp)), (hg, .inr (3, [.ref go, .ref gs, .ref ge, .ref gb, .int 0, .int 0, .int 0, .int 0])), (gs, .inl (cS, 10, .inl (fun _ => 0))), (gb, .inl (cB, 10, .inl (fun _ => 0))), (qs, .inr (1, [.int 0, .ref (D.2 50 0), .int 0])), (qc, .inr (1, [.int 0, .ref (D.2 50 0), .int 0])), (qp, .inl (cM, 7, .inl fm)), (qd, .inl (cD, 1, .inr (.inr (.inr (.inl (fun _ => 0)))))), (h0, .inr (6, [.ref hu, .ref hs, .ref hc, .ref hp, .ref hg, .int 0, .int 0, .int 0, .int 0, .int 0])), (qo, .inl (cJ, 1, .inr (.inl (fun _ => 0)))), (m0, .inr (10, [.int 1, .ref qu, .ref qs, .ref qc, .ref qp, .int 0, .int (-1), .int 0, .null])), (qu, .inr (1, [.int 0, .ref (D.2 50 0), .int 0]))] H1 := hP
        have hD : va_D A [(hu, .inl (cU, 10, .inr (.inr (.inr (.inr fu))))), (u0, .inr (5, [.ref ul, .int 0, .int 0, .int 45, .int 0, .int 0, .int (-1)])), (hc, .inl (cC, 4, .inr (.inr (.inr (.inr fc))))), (w0, .inr (2, [.int 100, .int (-1)])), (hp, .inl (cP, 7, .inl fp)), (hg, .inr (3, [.ref go, .ref gs, .ref ge, .ref gb, .int 0, .int 0, .int 0, .int 0])), (gs, .inl (cS, 10, .inl (fun _ => 0))), (gb, .inl (cB, 10, .inl (fun _ => 0))), (qs, .inr (1, [.int 0, .ref (D.2 50 0), .int 0])), (qc, .inr (1, [.int 0, .ref (D.2 50 0), .int 0])), (qp, .inl (cM, 7, .inl fm)), (qd, .inl (cD, 1, .inr (.inr (.inr (.inl (fun _ => 0)))))), (h0, .inr (6, [.ref hu, .ref hs, .ref hc, .ref hp, .ref hg, .int 0, .int 0, .int 0, .int 0, .int 0])), (qo, .inl (cJ, 1, .inr (.inl (fun _ => 0)))), (m0, .inr (10, [.int 1, .ref qu, .ref qs, .ref qc, .ref qp, .int 0, .int (-1), .int 0, .null])), (qu, .inr (1, [.int 0, .ref (D.2 50 0), .int 0]))] := hD
        have hK : va_K D vwCl [(cU, .object RX3), (cC, .object RX0), (cP, .int), (cS, .int), (cB, .int), (cM, .int), (cD, .double), (cJ, .long)] s := hK
        clear hS1
        refine lv_istore (lv' := [(7, .int r_29), (6, .int 1), (5, .int 0), (4, .ref qd), (3, .ref qo), (2, .ref m0), (1, .ref h0), (0, .ref b)]) hx hb dL_law_960 hl (by decide) rfl (fun ls hl => ?_)
        refine lv_aload_n hx hb dL_law_962 rfl (lv_at hl 5 rfl) ?_
        obtain ⟨hb_30, hc_30⟩ := z_call (wc := [(m0, .inr (10, [.int 1, .ref qu, .ref qs, .ref qc, .ref qp, .int 0, .int (-1), .int 0, .null]))]) (tc := []) ([.ref m0]) hP hK hD hS hA hE hX [14] rfl rfl [] rfl
        have hF_30 := va_free (wc := [(m0, .inr (10, [.int 1, .ref qu, .ref qs, .ref qc, .ref qp, .int 0, .int (-1), .int 0, .null]))]) hD hS hA [14] rfl
        refine va_calli (va_runV (As := []) (rest := []) ⟨hx, hb, hml, hown, hts⟩ (c_X8_thrown l D m0 qu qs qc qp 1 0 (-1) 0 .null _ ) (z_cV 0 hE zw_1108 zw_1109 zw_1110 zw_96 zw_1111 rfl rfl rfl (by decide +kernel) ⟨(Nat.le_of_ble_eq_true rfl), (Nat.le_of_ble_eq_true rfl)⟩) ⟨hb_30, va_recv hK hP (ci := 10) (q0 := 14) rfl rfl, hc_30⟩ rfl rfl hl.1 rfl (lv_room (Nat.le_of_ble_eq_true rfl)) dL_law_963 ⟨(Nat.le_of_ble_eq_true rfl), (Nat.le_of_ble_eq_true rfl)⟩) hS (fun q _ h => hF_30 q h) hF_30 (fun r_30 u_30 t_30 H1 locs ht_30 hvm_30 hw_30 hB_30 hz_30 hk_30 hS1 => ?_)
        obtain ⟨hP, hK, hD⟩ := z_back (wc := [(m0, .inr (10, [.int 1, .ref qu, .ref qs, .ref qc, .ref qp, .int 0, .int (-1), .int 0, .null]))]) (wr := [(hu, .inl (cU, 10, .inr (.inr (.inr (.inr fu))))), (u0, .inr (5, [.ref ul, .int 0, .int 0, .int 45, .int 0, .int 0, .int (-1)])), (hc, .inl (cC, 4, .inr (.inr (.inr (.inr fc))))), (w0, .inr (2, [.int 100, .int (-1)])), (hp, .inl (cP, 7, .inl fp)), (hg, .inr (3, [.ref go, .ref gs, .ref ge, .ref gb, .int 0, .int 0, .int 0, .int 0])), (gs, .inl (cS, 10, .inl (fun _ => 0))), (gb, .inl (cB, 10, .inl (fun _ => 0))), (qs, .inr (1, [.int 0, .ref (D.2 50 0), .int 0])), (qc, .inr (1, [.int 0, .ref (D.2 50 0), .int 0])), (qp, .inl (cM, 7, .inl fm)), (qd, .inl (cD, 1, .inr (.inr (.inr (.inl (fun _ => 0)))))), (h0, .inr (6, [.ref hu, .ref hs, .ref hc, .ref hp, .ref hg, .int 0, .int 0, .int 0, .int 0, .int 0])), (qo, .inl (cJ, 1, .inr (.inl (fun _ => 0)))), (qu, .inr (1, [.int 0, .ref (D.2 50 0), .int 0]))]) (w1 := [(m0, .inr (10, [.int 1, .ref qu, .ref qs, .ref qc, .ref qp, .int 0, .int (-1), .int 0, .null]))]) (tr := [(cU, .object RX3), (cC, .object RX0), (cP, .int), (cS, .int), (cB, .int), (cM, .int), (cD, .double), (cJ, .long)]) hP hK hD [14] [0, 1, 2, 3, 4, 5, 6, 7, 8, 9, 10, 11, 12, 13, 15] rfl rfl rfl (by decide) ht_30 hvm_30 hk_30 hF_30 [0, 1, 2, 3, 4, 5, 6, 7] rfl hB_30
        have hS := hS1
        have hP : va_P D vwCl [(hu, .inl (cU, 10, .inr (.inr (.inr (.inr fu))))), (u0, .inr (5, [.ref ul, .int 0, .int 0, .int 45, .int 0, .int 0, .int (-1)])), (hc, .inl (cC, 4, .inr (.inr (.inr (.inr fc))))), (w0, .inr (2, [.int 100, .int (-1)])), (hp, .inl (cP, 7, .inl fp)), (hg, .inr (3, [.ref go, .ref gs, .ref ge, .ref gb, .int 0, .int 0, .int 0, .int 0])), (gs, .inl (cS, 10, .inl (fun _ => 0))), (gb, .inl (cB, 10, .inl (fun _ => 0))), (qs, .inr (1, [.int 0, .ref (D.2 50 0), .int 0])), (qc, .inr (1, [.int 0, .ref (D.2 50 0), .int 0])), (qp, .inl (cM, 7, .inl fm)), (qd, .inl (cD, 1, .inr (.inr (.inr (.inl (fun _ => 0)))))), (h0, .inr (6, [.ref hu, .ref hs, .ref hc, .ref hp, .ref hg, .int 0, .int 0, .int 0, .int 0, .int 0])), (qo, .inl (cJ, 1, .inr (.inl (fun _ => 0)))), (qu, .inr (1, [.int 0, .ref (D.2 50 0), .int 0])), (m0, .inr (10, [.int 1, .ref qu, .ref qs, .ref qc, .ref qp, .int 0, .int (-1), .int 0, .null]))] H1 := hP
        have hD : va_D A [(hu, .inl (cU, 10, .inr (.inr (.inr (.inr fu))))), (u0, .inr (5, [.ref ul, .int 0, .int 0, .int 45, .int 0, .int 0, .int (-1)])), (hc, .inl (cC, 4, .inr (.inr (.inr (.inr fc))))), (w0, .inr (2, [.int 100, .int (-1)])), (hp, .inl (cP, 7, .inl fp)), (hg, .inr (3, [.ref go, .ref gs, .ref ge, .ref gb, .int 0, .int 0, .int 0, .int 0])), (gs, .inl (cS, 10, .inl (fun _ => 0))), (gb, .inl (cB, 10, .inl (fun _ => 0))), (qs, .inr (1, [.int 0, .ref (D.2 50 0), .int 0])), (qc, .inr (1, [.int 0, .ref (D.2 50 0), .int 0])), (qp, .inl (cM, 7, .inl fm)), (qd, .inl (cD, 1, .inr (.inr (.inr (.inl (fun _ => 0)))))), (h0, .inr (6, [.ref hu, .ref hs, .ref hc, .ref hp, .ref hg, .int 0, .int 0, .int 0, .int 0, .int 0])), (qo, .inl (cJ, 1, .inr (.inl (fun _ => 0)))), (qu, .inr (1, [.int 0, .ref (D.2 50 0), .int 0])), (m0, .inr (10, [.int 1, .ref qu, .ref qs, .ref qc, .ref qp, .int 0, .int (-1), .int 0, .null]))] := hD
        have hK : va_K D vwCl [(cU, .object RX3), (cC, .object RX0), (cP, .int), (cS, .int), (cB, .int), (cM, .int), (cD, .double), (cJ, .long)] s := hK
        clear hS1
        obtain rfl : r_30 = 1 := hw_30
        refine lv_iload hx hb dL_law_966 (lv_at hl 1 rfl) ?_
        refine lv_icmp_eq (tgt := 973) hx hb dL_law_968 (by decide) (fun c_31 => ?_) (fun c_31 => absurd (by decide) c_31)
        refine lv_iload hx hb dL_law_973 (lv_at hl 1 rfl) ?_
        refine lv_if_ne (tgt := 990) hx hb dL_law_975 (by decide) (fun c_32 => ?_) (fun c_32 => absurd c_32 (by decide))
        refine lv_goto (tgt := 2663) hx hb dL_law_990 (by decide) ?_
        exact law_end C0 hL7 hAF hbA hS (lv_sub (l' := [(5, .int 0), (0, .ref b)]) hl [2, 7] rfl) (Nat.le_of_ble_eq_true rfl) (Nat.le_of_ble_eq_true rfl)
      · refine lv_iconst (v := 1) hx hb dL_law_939 (by decide) ?_
        refine lv_goto (tgt := 944) hx hb dL_law_940 (by decide) ?_
        refine lv_aload_n hx hb dL_law_944 rfl (lv_at hl 6 rfl) ?_
        refine lv_iload hx hb dL_law_945 (lv_at hl 1 rfl) ?_
        refine lv_iconst (v := 5) hx hb dL_law_947 (by decide) ?_
        refine lv_iadd hx hb dL_law_948 ?_
        refine lv_topi (fun x_25 ex_25 => ?_)
        obtain rfl : x_25 = 5 := ex_25.trans (by first | rfl | decide | simp)
        refine va_sld (i := 5) hx hb hXs hbl hbA hS (by rw [hL7]; unfold vp_in; decide) dL_law_949 ?_
        refine lv_topi (fun a_26 ea_26 => ?_)
        obtain rfl : a_11 = a_26 := ea_11.trans ea_26.symm
        refine lv_aload_n hx hb dL_law_950 rfl (lv_at hl 6 rfl) ?_
        refine lv_iload hx hb dL_law_951 (lv_at hl 1 rfl) ?_
        refine lv_bipush (v := 6) hx hb dL_law_953 (by decide) ?_
        refine lv_iadd hx hb dL_law_955 ?_
        refine lv_topi (fun x_27 ex_27 => ?_)
        obtain rfl : x_27 = 6 := ex_27.trans (by first | rfl | decide | simp)
        refine va_sld (i := 6) hx hb hXs hbl hbA hS (by rw [hL7]; unfold vp_in; decide) dL_law_956 ?_
        refine lv_topi (fun a_28 ea_28 => ?_)
        obtain rfl : a_13 = a_28 := ea_13.trans ea_28.symm
        obtain ⟨hb_29, hc_29⟩ := z_call (wc := [(m0, .inr (10, [.int 0, .ref qu, .ref qs, .ref qc, .ref qp, .int 0, .int (-1), .int 0, .null])), (qu, .inr (1, [.int 0, .ref (D.2 50 0), .int 0]))]) (tc := []) ([.ref m0, .int a_2, .int a_4, .int a_6, .int 1, .int a_11, .int a_13]) hP hK hD hS hA hE hX [8, 9] rfl rfl [] rfl
        have hF_29 := va_free (wc := [(m0, .inr (10, [.int 0, .ref qu, .ref qs, .ref qc, .ref qp, .int 0, .int (-1), .int 0, .null])), (qu, .inr (1, [.int 0, .ref (D.2 50 0), .int 0]))]) hD hS hA [8, 9] rfl
        refine va_calli (va_runV (As := [.int a_2, .int a_4, .int a_6, .int 1, .int a_11, .int a_13]) (rest := []) ⟨hx, hb, hml, hown, hts⟩ (f_X8_addShop l D m0 qu qs qc qp 0 (D.2 50 0) a_2 a_4 a_6 1 a_11 a_13 _ ) (z_cV 6 hE zw_1392 zw_1393 zw_1394 zw_96 zw_1395 rfl rfl rfl (by decide +kernel) ⟨(Nat.le_of_ble_eq_true rfl), (Nat.le_of_ble_eq_true rfl)⟩) ⟨hb_29, va_recv hK hP (ci := 10) (q0 := 8) rfl rfl, hc_29⟩ rfl rfl hl.1 rfl (lv_room (Nat.le_of_ble_eq_true rfl)) dL_law_957 ⟨(Nat.le_of_ble_eq_true rfl), (Nat.le_of_ble_eq_true rfl)⟩) hS (fun q _ h => hF_29 q h) hF_29 (fun r_29 u_29 t_29 H1 locs ht_29 hvm_29 hw_29 hB_29 hz_29 hk_29 hS1 => ?_)
        obtain ⟨hP, hK, hD⟩ := z_back (wc := [(m0, .inr (10, [.int 0, .ref qu, .ref qs, .ref qc, .ref qp, .int 0, .int (-1), .int 0, .null])), (qu, .inr (1, [.int 0, .ref (D.2 50 0), .int 0]))]) (wr := [(hu, .inl (cU, 10, .inr (.inr (.inr (.inr fu))))), (u0, .inr (5, [.ref ul, .int 0, .int 0, .int 45, .int 0, .int 0, .int (-1)])), (hc, .inl (cC, 4, .inr (.inr (.inr (.inr fc))))), (w0, .inr (2, [.int 100, .int (-1)])), (hp, .inl (cP, 7, .inl fp)), (hg, .inr (3, [.ref go, .ref gs, .ref ge, .ref gb, .int 0, .int 0, .int 0, .int 0])), (gs, .inl (cS, 10, .inl (fun _ => 0))), (gb, .inl (cB, 10, .inl (fun _ => 0))), (qs, .inr (1, [.int 0, .ref (D.2 50 0), .int 0])), (qc, .inr (1, [.int 0, .ref (D.2 50 0), .int 0])), (qp, .inl (cM, 7, .inl fm)), (qd, .inl (cD, 1, .inr (.inr (.inr (.inl (fun _ => 0)))))), (h0, .inr (6, [.ref hu, .ref hs, .ref hc, .ref hp, .ref hg, .int 0, .int 0, .int 0, .int 0, .int 0])), (qo, .inl (cJ, 1, .inr (.inl (fun _ => 0))))]) (w1 := [(m0, .inr (10, [.int 1, .ref qu, .ref qs, .ref qc, .ref qp, .int 0, .int (-1), .int 0, .null])), (qu, .inr (1, [.int 0, .ref (D.2 50 0), .int 0]))]) (tr := [(cU, .object RX3), (cC, .object RX0), (cP, .int), (cS, .int), (cB, .int), (cM, .int), (cD, .double), (cJ, .long)]) hP hK hD [8, 9] [0, 1, 2, 3, 4, 5, 6, 7, 10, 11, 12, 13, 14, 15] rfl rfl rfl (by decide) ht_29 hvm_29 hk_29 hF_29 [0, 1, 2, 3, 4, 5, 6, 7] rfl hB_29
        have hS := hS1
        have hP : va_P D vwCl [(hu, .inl (cU, 10, .inr (.inr (.inr (.inr fu))))), (u0, .inr (5, [.ref ul, .int 0, .int 0, .int 45, .int 0, .int 0, .int (-1)])), (hc, .inl (cC, 4, .inr (.inr (.inr (.inr fc))))), (w0, .inr (2, [.int 100, .int (-1)])), (hp, .inl (cP, 7, .inl fp)), (hg, .inr (3, [.ref go, .ref gs, .ref ge, .ref gb, .int 0, .int 0, .int 0, .int 0])), (gs, .inl (cS, 10, .inl (fun _ => 0))), (gb, .inl (cB, 10, .inl (fun _ => 0))), (qs, .inr (1, [.int 0, .ref (D.2 50 0), .int 0])), (qc, .inr (1, [.int 0, .ref (D.2 50 0), .int 0])), (qp, .inl (cM, 7, .inl fm)), (qd, .inl (cD, 1, .inr (.inr (.inr (.inl (fun _ => 0)))))), (h0, .inr (6, [.ref hu, .ref hs, .ref hc, .ref hp, .ref hg, .int 0, .int 0, .int 0, .int 0, .int 0])), (qo, .inl (cJ, 1, .inr (.inl (fun _ => 0)))), (m0, .inr (10, [.int 1, .ref qu, .ref qs, .ref qc, .ref qp, .int 0, .int (-1), .int 0, .null])), (qu, .inr (1, [.int 0, .ref (D.2 50 0), .int 0]))] H1 := hP
        have hD : va_D A [(hu, .inl (cU, 10, .inr (.inr (.inr (.inr fu))))), (u0, .inr (5, [.ref ul, .int 0, .int 0, .int 45, .int 0, .int 0, .int (-1)])), (hc, .inl (cC, 4, .inr (.inr (.inr (.inr fc))))), (w0, .inr (2, [.int 100, .int (-1)])), (hp, .inl (cP, 7, .inl fp)), (hg, .inr (3, [.ref go, .ref gs, .ref ge, .ref gb, .int 0, .int 0, .int 0, .int 0])), (gs, .inl (cS, 10, .inl (fun _ => 0))), (gb, .inl (cB, 10, .inl (fun _ => 0))), (qs, .inr (1, [.int 0, .ref (D.2 50 0), .int 0])), (qc, .inr (1, [.int 0, .ref (D.2 50 0), .int 0])), (qp, .inl (cM, 7, .inl fm)), (qd, .inl (cD, 1, .inr (.inr (.inr (.inl (fun _ => 0)))))), (h0, .inr (6, [.ref hu, .ref hs, .ref hc, .ref hp, .ref hg, .int 0, .int 0, .int 0, .int 0, .int 0])), (qo, .inl (cJ, 1, .inr (.inl (fun _ => 0)))), (m0, .inr (10, [.int 1, .ref qu, .ref qs, .ref qc, .ref qp, .int 0, .int (-1), .int 0, .null])), (qu, .inr (1, [.int 0, .ref (D.2 50 0), .int 0]))] := hD
        have hK : va_K D vwCl [(cU, .object RX3), (cC, .object RX0), (cP, .int), (cS, .int), (cB, .int), (cM, .int), (cD, .double), (cJ, .long)] s := hK
        clear hS1
        refine lv_istore (lv' := [(7, .int r_29), (6, .int 1), (5, .int 0), (4, .ref qd), (3, .ref qo), (2, .ref m0), (1, .ref h0), (0, .ref b)]) hx hb dL_law_960 hl (by decide) rfl (fun ls hl => ?_)
        refine lv_aload_n hx hb dL_law_962 rfl (lv_at hl 5 rfl) ?_
        obtain ⟨hb_30, hc_30⟩ := z_call (wc := [(m0, .inr (10, [.int 1, .ref qu, .ref qs, .ref qc, .ref qp, .int 0, .int (-1), .int 0, .null]))]) (tc := []) ([.ref m0]) hP hK hD hS hA hE hX [14] rfl rfl [] rfl
        have hF_30 := va_free (wc := [(m0, .inr (10, [.int 1, .ref qu, .ref qs, .ref qc, .ref qp, .int 0, .int (-1), .int 0, .null]))]) hD hS hA [14] rfl
        refine va_calli (va_runV (As := []) (rest := []) ⟨hx, hb, hml, hown, hts⟩ (c_X8_thrown l D m0 qu qs qc qp 1 0 (-1) 0 .null _ ) (z_cV 0 hE zw_1108 zw_1109 zw_1110 zw_96 zw_1111 rfl rfl rfl (by decide +kernel) ⟨(Nat.le_of_ble_eq_true rfl), (Nat.le_of_ble_eq_true rfl)⟩) ⟨hb_30, va_recv hK hP (ci := 10) (q0 := 14) rfl rfl, hc_30⟩ rfl rfl hl.1 rfl (lv_room (Nat.le_of_ble_eq_true rfl)) dL_law_963 ⟨(Nat.le_of_ble_eq_true rfl), (Nat.le_of_ble_eq_true rfl)⟩) hS (fun q _ h => hF_30 q h) hF_30 (fun r_30 u_30 t_30 H1 locs ht_30 hvm_30 hw_30 hB_30 hz_30 hk_30 hS1 => ?_)
        obtain ⟨hP, hK, hD⟩ := z_back (wc := [(m0, .inr (10, [.int 1, .ref qu, .ref qs, .ref qc, .ref qp, .int 0, .int (-1), .int 0, .null]))]) (wr := [(hu, .inl (cU, 10, .inr (.inr (.inr (.inr fu))))), (u0, .inr (5, [.ref ul, .int 0, .int 0, .int 45, .int 0, .int 0, .int (-1)])), (hc, .inl (cC, 4, .inr (.inr (.inr (.inr fc))))), (w0, .inr (2, [.int 100, .int (-1)])), (hp, .inl (cP, 7, .inl fp)), (hg, .inr (3, [.ref go, .ref gs, .ref ge, .ref gb, .int 0, .int 0, .int 0, .int 0])), (gs, .inl (cS, 10, .inl (fun _ => 0))), (gb, .inl (cB, 10, .inl (fun _ => 0))), (qs, .inr (1, [.int 0, .ref (D.2 50 0), .int 0])), (qc, .inr (1, [.int 0, .ref (D.2 50 0), .int 0])), (qp, .inl (cM, 7, .inl fm)), (qd, .inl (cD, 1, .inr (.inr (.inr (.inl (fun _ => 0)))))), (h0, .inr (6, [.ref hu, .ref hs, .ref hc, .ref hp, .ref hg, .int 0, .int 0, .int 0, .int 0, .int 0])), (qo, .inl (cJ, 1, .inr (.inl (fun _ => 0)))), (qu, .inr (1, [.int 0, .ref (D.2 50 0), .int 0]))]) (w1 := [(m0, .inr (10, [.int 1, .ref qu, .ref qs, .ref qc, .ref qp, .int 0, .int (-1), .int 0, .null]))]) (tr := [(cU, .object RX3), (cC, .object RX0), (cP, .int), (cS, .int), (cB, .int), (cM, .int), (cD, .double), (cJ, .long)]) hP hK hD [14] [0, 1, 2, 3, 4, 5, 6, 7, 8, 9, 10, 11, 12, 13, 15] rfl rfl rfl (by decide) ht_30 hvm_30 hk_30 hF_30 [0, 1, 2, 3, 4, 5, 6, 7] rfl hB_30
        have hS := hS1
        have hP : va_P D vwCl [(hu, .inl (cU, 10, .inr (.inr (.inr (.inr fu))))), (u0, .inr (5, [.ref ul, .int 0, .int 0, .int 45, .int 0, .int 0, .int (-1)])), (hc, .inl (cC, 4, .inr (.inr (.inr (.inr fc))))), (w0, .inr (2, [.int 100, .int (-1)])), (hp, .inl (cP, 7, .inl fp)), (hg, .inr (3, [.ref go, .ref gs, .ref ge, .ref gb, .int 0, .int 0, .int 0, .int 0])), (gs, .inl (cS, 10, .inl (fun _ => 0))), (gb, .inl (cB, 10, .inl (fun _ => 0))), (qs, .inr (1, [.int 0, .ref (D.2 50 0), .int 0])), (qc, .inr (1, [.int 0, .ref (D.2 50 0), .int 0])), (qp, .inl (cM, 7, .inl fm)), (qd, .inl (cD, 1, .inr (.inr (.inr (.inl (fun _ => 0)))))), (h0, .inr (6, [.ref hu, .ref hs, .ref hc, .ref hp, .ref hg, .int 0, .int 0, .int 0, .int 0, .int 0])), (qo, .inl (cJ, 1, .inr (.inl (fun _ => 0)))), (qu, .inr (1, [.int 0, .ref (D.2 50 0), .int 0])), (m0, .inr (10, [.int 1, .ref qu, .ref qs, .ref qc, .ref qp, .int 0, .int (-1), .int 0, .null]))] H1 := hP
        have hD : va_D A [(hu, .inl (cU, 10, .inr (.inr (.inr (.inr fu))))), (u0, .inr (5, [.ref ul, .int 0, .int 0, .int 45, .int 0, .int 0, .int (-1)])), (hc, .inl (cC, 4, .inr (.inr (.inr (.inr fc))))), (w0, .inr (2, [.int 100, .int (-1)])), (hp, .inl (cP, 7, .inl fp)), (hg, .inr (3, [.ref go, .ref gs, .ref ge, .ref gb, .int 0, .int 0, .int 0, .int 0])), (gs, .inl (cS, 10, .inl (fun _ => 0))), (gb, .inl (cB, 10, .inl (fun _ => 0))), (qs, .inr (1, [.int 0, .ref (D.2 50 0), .int 0])), (qc, .inr (1, [.int 0, .ref (D.2 50 0), .int 0])), (qp, .inl (cM, 7, .inl fm)), (qd, .inl (cD, 1, .inr (.inr (.inr (.inl (fun _ => 0)))))), (h0, .inr (6, [.ref hu, .ref hs, .ref hc, .ref hp, .ref hg, .int 0, .int 0, .int 0, .int 0, .int 0])), (qo, .inl (cJ, 1, .inr (.inl (fun _ => 0)))), (qu, .inr (1, [.int 0, .ref (D.2 50 0), .int 0])), (m0, .inr (10, [.int 1, .ref qu, .ref qs, .ref qc, .ref qp, .int 0, .int (-1), .int 0, .null]))] := hD
        have hK : va_K D vwCl [(cU, .object RX3), (cC, .object RX0), (cP, .int), (cS, .int), (cB, .int), (cM, .int), (cD, .double), (cJ, .long)] s := hK
        clear hS1
        obtain rfl : r_30 = 1 := hw_30
        refine lv_iload hx hb dL_law_966 (lv_at hl 1 rfl) ?_
        refine lv_icmp_eq (tgt := 973) hx hb dL_law_968 (by decide) (fun c_31 => ?_) (fun c_31 => absurd (by decide) c_31)
        refine lv_iload hx hb dL_law_973 (lv_at hl 1 rfl) ?_
        refine lv_if_ne (tgt := 990) hx hb dL_law_975 (by decide) (fun c_32 => ?_) (fun c_32 => absurd c_32 (by decide))
        refine lv_goto (tgt := 2663) hx hb dL_law_990 (by decide) ?_
        exact law_end C0 hL7 hAF hbA hS (lv_sub (l' := [(5, .int 0), (0, .ref b)]) hl [2, 7] rfl) (Nat.le_of_ble_eq_true rfl) (Nat.le_of_ble_eq_true rfl)
