/-! What every contract here is said in: the words that aren't 'good' ones travel in the start (z_E), the JDK's statics likewise (z_X). -/
/-- the kinds of words that a start hands on: links of nest mates, strings, castable, declares -/
def z_ok : Cond → Bool
  | .fieldLinkNest _ _ _ _ _ _ => true
  | .methodLinkNest _ _ _ _ => true
  | .stringRef _ _ _ => true
  | .castable _ _ => true
  | .declares _ => true
  | .arrayOver (.object _) => true
  | _ => false
theorem z_arg {w : Cond} {A A' : Array Value} {U : State} (hk : z_ok w = true) (h : w.before A U = true) : w.before A' U = true := by
  cases w with
  | fieldLinkNest a i b n d g => exact va_tabs rfl rfl h
  | methodLinkNest a i x g => exact va_tabs rfl rfl h
  | stringRef a i t => exact h
  | castable a b => exact va_tabs rfl rfl h
  | declares x => exact va_tabs rfl rfl h
  | arrayOver ty => exact h
  | _ => exact absurd hk (by simp [z_ok])
theorem z_strA {own tx : String} {k : Nat} {U : State} (h : va_Nw (.stringRef own k tx) U) : ∃ a, vk_R own k tx a U := by
  have hcur : ∃ cur, U.vm.findClass own = some cur := by
    have h1 : (Cond.stringRef own k tx).before #[] U = true := h
    simp only [Cond.before, Cond.holds, Cond.value] at h1
    cases hc : U.vm.findClass own with
    | none => simp [hc] at h1
    | some cur => exact ⟨cur, rfl⟩
  obtain ⟨cur, hcur⟩ := hcur
  obtain ⟨k9, cf, i, a, h1, h2, h3, h4, h5, hev⟩ := Cond.stringRef_spec (args := #[]) hcur h
  exact ⟨a, h, hev⟩
theorem z_warm {w : Cond} {s U : State} (hk : z_ok w = true) (hW : s.WarmedH U.vm) (h : va_Nw w s) : va_Nw w U := by
  cases w with
  | fieldLinkNest a i b n d g => exact va_Nw.warmF hW h
  | methodLinkNest a i x g => exact va_Nw.warmM hW h
  | stringRef a i t => obtain ⟨q, hq⟩ := z_strA h; exact (vk_R.warm hW hq).1
  | castable a b => exact va_Nw.warmC hW h
  | declares x => exact va_Nw.warmD hW h
  | arrayOver ty =>
    cases ty with
    | object C => exact va_AO.moved hW.alike h
    | _ => exact absurd hk (by simp [z_ok])
  | _ => exact absurd hk (by simp [z_ok])
def z_k (w : Cond) : Bool := goodWord w || z_ok w
/-- the words that every method here may use: those of the law's list that stay true on the way -/
def z_Ts : List Cond := lw_tbl.filter z_k
theorem z_m {w : Cond} (i : Nat) (h : lw_tbl[i]? = some w) (hk : z_k w = true) : w ∈ z_Ts := List.mem_filter.mpr ⟨List.mem_of_getElem? h, hk⟩
def z_E (U : State) : Prop := ∀ w ∈ z_Ts, va_Nw w U
theorem z_go {w : Cond} {A A' : Array Value} {s U : State} (hk : z_k w = true) (hW : s.WarmedH U.vm) (h : w.before A s = true) : w.before A' U = true := by
  by_cases g : goodWord w = true
  · exact word_at hW (good_of_word g) h
  · have h2 : z_ok w = true := by
      unfold z_k at hk
      cases hg : goodWord w
      · rw [hg] at hk; exact hk
      · exact absurd hg g
    exact z_arg h2 (z_warm h2 hW (z_arg h2 h))
theorem z_E.warm {s U : State} (hW : s.WarmedH U.vm) (hE : z_E s) : z_E U := fun w hw => z_go (List.mem_filter.mp hw).2 hW (hE w hw)
theorem z_E.same {u U : State} (h : u.vm = U.vm) (hE : z_E u) : z_E U := z_E.warm (by rw [← h]; exact State.WarmedH.refl u) hE
theorem z_E.ts {s : State} {args : Array Value} (hE : z_E s) : ∀ w ∈ z_Ts, w.before args s = true := fun w hw => z_go (List.mem_filter.mp hw).2 (State.WarmedH.refl s) (hE w hw)
theorem z_E.of {s : State} {args : Array Value} (h : ∀ w ∈ lw_tbl, w.before args s = true) : z_E s := fun w hw => z_go (List.mem_filter.mp hw).2 (State.WarmedH.refl s) (h w (List.mem_filter.mp hw).1)
theorem z_str {own tx : String} {k : Nat} {U : State} (hE : z_E U) (h : Cond.stringRef own k tx ∈ z_Ts) : ∃ a, vk_R own k tx a U := z_strA (hE _ h)
/-- the words of a throw -/
theorem z_hat {args : Array Value} {s : State} {L : List Cond} (hE : z_E s) (h : ∀ w ∈ L, w ∈ z_Ts) : ∀ w ∈ L, w.before args s = true := fun w hw => hE.ts w (h w hw)
/-- the statics of the JDK that the throws and the lists read, outside of A -/
def z_iterH : MethodName := ⟨"java/util/Iterator", "hasNext", "()Z"⟩
def z_iterN : MethodName := ⟨"java/util/Iterator", "next", "()Ljava/lang/Object;"⟩
/-- .. the lists' empty array, the one text that is looked into: their addresses are D's own spare numbers -/
def z_X (D : va_G) (A : Nat → Prop) (U : State) (H : Heap) : Prop :=
  (vx_Zq Bundle.tN "UNASSIGNED_STACK" Bundle.steD A U H ∧ vx_Zq Bundle.tN "SUPPRESSED_SENTINEL" Bundle.listD A U H) ∧
  (va_Fw "java/util/ArrayList$Itr" z_iterH yJx35411_hasNext_aae02 U ∧ va_Fw "java/util/ArrayList$Itr" z_iterN yJx35411_next_0502b U) ∧
  (va_Z "java/util/ArrayList" "DEFAULTCAPACITY_EMPTY_ELEMENTDATA" "[Ljava/lang/Object;" (.ref (D.2 50 0)) A U H ∧ va_T (.object "java/lang/Object") (D.2 50 0) 0 (fun _ => .null) A U H) ∧
  (vk_R RX8 256 "dnh" (D.2 51 0) U ∧ vk_S 1 [3] [[100, 110, 104]] (fun _ => D.2 51 0) (fun _ => D.2 51 1) A U H ∧ va_Z "java/lang/String" "COMPACT_STRINGS" "Z" (.int 1) A U H)
theorem z_X.warm {D : va_G} {A : Nat → Prop} {u U : State} {H : Heap} (hW : u.WarmedH U.vm) (h : z_X D A u H) : z_X D A U H := by
  obtain ⟨⟨a1, a2⟩, ⟨b1, b2⟩, ⟨c1, c2⟩, d1, d2, d3⟩ := h
  have hvm := hW.alike
  exact ⟨⟨vx_Zq.moved hvm a1, vx_Zq.moved hvm a2⟩, ⟨va_Fw.moved (by decide) hvm b1, va_Fw.moved (by decide) hvm b2⟩, ⟨va_Z.moved hvm c1, va_T.moved hvm c2⟩, vk_R.warm hW d1, vk_S.moved hvm d2, va_Z.moved hvm d3⟩
theorem z_X.same {D : va_G} {A : Nat → Prop} {u U : State} {H : Heap} (h9 : u.vm = U.vm) (h : z_X D A u H) : z_X D A U H := z_X.warm (by rw [← h9]; exact State.WarmedH.refl u) h
theorem z_X.kept {D : va_G} {A : Nat → Prop} {U : State} {H H1 : Heap} (h : z_X D A U H) (hq : ∀ a : Nat, a < H.size → ¬ A a → H1[a]? = H[a]?) : z_X D A U H1 := by
  obtain ⟨⟨a1, a2⟩, b, ⟨c1, c2⟩, d1, d2, d3⟩ := h
  exact ⟨⟨a1.kept hq, a2.kept hq⟩, b, ⟨c1.kept hq, c2.kept hq⟩, d1, d2.kept hq, d3.kept hq⟩
theorem z_X.narrow {D : va_G} {A B : Nat → Prop} {U : State} {H : Heap} (h : z_X D A U H) (hAB : ∀ q, B q → A q) : z_X D B U H := by
  obtain ⟨⟨a1, a2⟩, b, ⟨c1, c2⟩, d1, d2, d3⟩ := h
  exact ⟨⟨a1.narrow hAB, a2.narrow hAB⟩, b, ⟨c1.narrow hAB, c2.narrow hAB⟩, d1, d2.narrow hAB, d3.narrow hAB⟩
/-- a start: the cells ws, apart, the heap of sz cells, the words, the statics -/
def z_B (D : va_G) (ws : va_W) (tys : List (ClassId × FieldType)) (sz : Nat) (U : State) : Prop :=
  U.heap.size = sz ∧ va_P D vwCl ws U.heap ∧ va_K D vwCl tys U ∧ va_D (fun _ => True) ws ∧ z_E U ∧ z_X D (va_A ws sz) U U.heap
def z_Pc (D : va_G) (av : List Value) (ws : va_W) (tys : List (ClassId × FieldType)) (sz : Nat) : Array Value → State → Prop := va_Pc av (z_B D ws tys sz)
/-- an end: the cells ws -/
def z_W (D : va_G) (ws : va_W) (tys : List (ClassId × FieldType)) (A : Nat → Prop) (t : State) : Prop := va_P D vwCl ws t.heap ∧ va_K D vwCl tys t ∧ va_D A ws
theorem z_blind (D : va_G) (av : List Value) (ws : va_W) (tys : List (ClassId × FieldType)) (sz : Nat) : FrameBlind (z_Pc D av ws tys sz) := by
  intro a U g mk h
  obtain ⟨h0, h1, h2, h3, h4, h5, h6⟩ := h
  exact ⟨h0, h1, h2, va_K.moved (u := U) (U := U.calling g mk a) (Vm.Alike.refl U.vm) h3, h4, z_E.same (u := U) (U := U.calling g mk a) rfl h5, z_X.same (u := U) (U := U.calling g mk a) rfl h6⟩
theorem z_fm {α : Type} {f : Nat → Option α} : ∀ {is : List Nat} {wc : List α}, is.map f = wc.map some → is.filterMap f = wc
  | [], [], _ => rfl
  | [], _ :: _, h => nomatch h
  | _ :: _, [], h => nomatch h
  | i :: is, w :: wc, h => by
    have h1 : f i = some w := by injection h
    have h2 : is.map f = wc.map some := by injection h
    rw [List.filterMap_cons, h1]
    exact congrArg (w :: ·) (z_fm h2)
/-- what a call asks, out of where the caller stands -/
theorem z_call {D : va_G} {s : State} {A : Nat → Prop} {H : Heap} {locs : List Loc} {ws wc : va_W} {tys tc : List (ClassId × FieldType)} (av : List Value) (hP : va_P D vwCl ws H) (hK : va_K D vwCl tys s) (hD : va_D A ws) (hS : va_S A s.heap H locs) (hA : ∀ q, s.heap.size ≤ q → A q) (hE : z_E s) (hX : z_X D A s s.heap)
    (isC : List Nat) (hn : va_nd isC = true) (hC : isC.map (fun i => ws[i]?) = wc.map some) (isT : List Nat) (hT : isT.filterMap (fun i => tys[i]?) = tc) : FrameBlind (z_Pc D av wc tc H.size) ∧ ∀ U : State, U.heap = H → s.WarmedH U.vm → z_Pc D av wc tc H.size av.toArray U := by
  refine ⟨z_blind _ _ _ _ _, fun U hU hW => ?_⟩
  have hP' := hP.sub (ws' := wc) isC (z_fm hC)
  have hD' := hD.sub (ws' := wc) isC hn hC
  have hK' := hK.sub (tys' := tc) isT hT
  have hF := va_free (wc := wc) hD hS hA isC hC
  refine ⟨rfl, by rw [hU], by rw [hU]; exact hP', va_K.moved hW.alike hK', hD'.weaken (fun _ _ _ _ => trivial), z_E.warm hW hE, ?_⟩
  rw [hU]
  exact z_X.warm hW ((hX.kept hS.2.1).narrow hF)
/-- what stands behind a call: the callee's cells beside the rest -/
theorem z_back {D : va_G} {s t : State} {A : Nat → Prop} {H H1 : Heap} {ws wc wr w1 : va_W} {tys t1 tr : List (ClassId × FieldType)} (hP : va_P D vwCl ws H) (hK : va_K D vwCl tys s) (hD : va_D A ws) (isC isR : List Nat) (hC : isC.map (fun i => ws[i]?) = wc.map some) (hR : isR.map (fun i => ws[i]?) = wr.map some) (hn : va_nd isR = true) (hdis : ∀ i ∈ isR, i ∉ isC)
    (ht : t.heap = H1) (hvm : s.vm.Alike t.vm) (hk : ∀ q : Nat, q < H.size → ¬ va_A wc H.size q → H1[q]? = H[q]?) (hF : ∀ q, va_A wc H.size q → A q) (isT : List Nat) (hT : isT.filterMap (fun i => tys[i]?) = tr) (hB : z_W D w1 t1 (va_A wc H.size) t) : va_P D vwCl (wr ++ w1) H1 ∧ va_K D vwCl (tr ++ t1) s ∧ va_D A (wr ++ w1) := by
  obtain ⟨hP1, hK1, hD1⟩ := hB
  rw [ht] at hP1
  obtain ⟨a, b⟩ := va_join (wr := wr) (w1 := w1) hP hD isC isR hC hR hn hdis hk hF hP1 hD1
  exact ⟨a, (hK.sub (tys' := tr) isT hT).app (va_K.moved hvm.symm hK1), b⟩
/-- a method's own end -/
theorem z_end {D : va_G} {s t : State} {A : Nat → Prop} {H : Heap} {ws w1 : va_W} {tys t1 : List (ClassId × FieldType)} (hP : va_P D vwCl ws H) (hK : va_K D vwCl tys s) (hD : va_D A ws) (isC : List Nat) (hn : va_nd isC = true) (hC : isC.map (fun i => ws[i]?) = w1.map some) (isT : List Nat) (hT : isT.filterMap (fun i => tys[i]?) = t1) (ht : t.heap = H) (hvm : s.vm.Alike t.vm) : z_W D w1 t1 A t :=
  ⟨by rw [ht]; exact hP.sub isC (z_fm hC), va_K.moved hvm (hK.sub isT hT), hD.sub isC hn hC⟩
/-- where it throws (if px): its kind E0, the cells as they were -/
def z_T (px : Prop) (E0 : String) (D : va_G) (ws : va_W) (tys : List (ClassId × FieldType)) (sz : Nat) : String → State → State → Prop := vx_X (fun _ : Unit => px) (fun E _ t => E = E0 ∧ z_W D ws tys (va_A ws sz) t) (va_A ws sz)
theorem z_thrown {px : Prop} (hpx : px) {D : va_G} {s : State} {E0 : String} {A : Nat → Prop} {H : Heap} {locs : List Loc} {ws w1 : va_W} {tys t1 : List (ClassId × FieldType)} {sz : Nat} (hz : s.heap.size = sz) (hAe : va_A w1 sz = A) (hP : va_P D vwCl ws H) (hK : va_K D vwCl tys s) (hD : va_D A ws) (hS : va_S A s.heap H locs) (isC : List Nat) (hn : va_nd isC = true) (hC : isC.map (fun i => ws[i]?) = w1.map some) (isT : List Nat) (hT : isT.filterMap (fun i => tys[i]?) = t1) :
    ∀ t : State, s.vm.Alike t.vm → H.size ≤ t.heap.size → (∀ q : Nat, q < H.size → t.heap[q]? = H[q]?) → z_T px E0 D w1 t1 sz E0 s t := by
  intro t hvm hz2 hq
  subst hz
  rw [← hAe] at hD hS
  refine ⟨(), hpx, ⟨rfl, ?_, va_K.moved hvm (hK.sub isT hT), hD.sub isC hn hC⟩, Nat.le_trans hS.1 hz2, fun q h1 h2 => ?_⟩
  · exact (hP.sub isC (z_fm hC)).kept (fun k q hk => hq q.1 (vx_lt (hP.sub isC (z_fm hC)) hk))
  · rw [hq q (Nat.lt_of_lt_of_le h1 hS.1)]
    exact hS.2.1 q h1 h2
/-- the words of a call: by its five words -/
theorem z_cB {R : Room} {s : State} {args : Array Value} {own : String} {index : Nat} {y : MethodName} {bytes : ByteArray} {maxL : Nat} {ret : Option FieldType} {rm : Room} {mc ms : Nat} (n : Nat) (hE : z_E s) (h1 : Cond.methodLink own index y ∈ z_Ts) (h4 : Cond.initialized y.cls ∈ z_Ts) (h5 : Cond.code y bytes maxL ret ∈ z_Ts) (hg : goodWord (Cond.code y bytes maxL ret) = true) (hrc : rm.cells = mc) (hrs : rm.slots = ms)
    (hd : y.cls ≠ "java/lang/invoke/MethodHandle" ∧ y.cls ≠ "java/lang/invoke/VarHandle" ∧ (parseMethodDescriptor y.desc).map (fun d => d.parameters.length) = some n) (hR : rm.frames + 1 ≤ R.frames ∧ 8 + (maxL + 11) + rm.locals ≤ R.locals) : CallB R s args own index y bytes maxL ret [Cond.code y bytes maxL ret] rm mc ms n := by
  refine ⟨hrc, hrs, hR.1, hR.2, fun w hw a' U hW => ?_, List.mem_cons_self, hE.ts _ h5, hE.ts _ h4, ⟨hd.1, hd.2.1⟩, fun sig h => ?_, hE.ts _ h1⟩
  · cases List.mem_singleton.mp hw
    exact word_at hW (good_of_word hg) (hE.ts (args := args) _ h5)
  · have h2 := hd.2.2
    rw [h] at h2
    exact (Option.some.inj h2).symm
theorem z_cV {R : Room} {s : State} {args : Array Value} {own : String} {index : Nat} {y : MethodName} {bytes : ByteArray} {maxL : Nat} {ret : Option FieldType} {rm : Room} {mc ms : Nat} (n : Nat) (hE : z_E s) (h1 : Cond.methodLink own index y ∈ z_Ts) (h2 : Cond.instanceMethod y ∈ z_Ts) (h3 : Cond.selects y.cls y y ∈ z_Ts) (h4 : Cond.initialized y.cls ∈ z_Ts) (h5 : Cond.code y bytes maxL ret ∈ z_Ts) (hg : goodWord (Cond.code y bytes maxL ret) = true) (hrc : rm.cells = mc) (hrs : rm.slots = ms)
    (hd : y.cls ≠ "java/lang/invoke/MethodHandle" ∧ y.cls ≠ "java/lang/invoke/VarHandle" ∧ (parseMethodDescriptor y.desc).map (fun d => d.parameters.length) = some n) (hR : rm.frames + 1 ≤ R.frames ∧ 8 + (maxL + 11) + rm.locals ≤ R.locals) : CallW R s args own y.cls index y bytes maxL ret [Cond.code y bytes maxL ret] rm mc ms n :=
  ⟨z_cB n hE h1 h4 h5 hg hrc hrs hd hR, hE.ts _ h2, hE.ts _ h3⟩
theorem z_ins {L : List Cond} (h : ∀ w ∈ L, w ∈ lw_tbl) (hk : L.all z_k = true) : ∀ w ∈ L, w ∈ z_Ts := fun w hw => List.mem_filter.mpr ⟨h w hw, List.all_eq_true.mp hk w hw⟩
/-- an exception that comes out of a call and goes on -/
theorem z_through {px : Prop} (hpx : px) {D : va_G} {s t : State} {E0 : String} {A : Nat → Prop} {H : Heap} {locs : List Loc} {ws w1 : va_W} {tys t1 : List (ClassId × FieldType)} {sz : Nat} (hz : s.heap.size = sz) (hAe : va_A w1 sz = A) (hP : va_P D vwCl ws H) (hK : va_K D vwCl tys s) (hD : va_D A ws) (hS : va_S A s.heap H locs) (isC : List Nat) (hn : va_nd isC = true) (hC : isC.map (fun i => ws[i]?) = w1.map some) (isT : List Nat) (hT : isT.filterMap (fun i => tys[i]?) = t1)
    (ht : t.heap = H) (hvm : s.vm.Alike t.vm) : z_T px E0 D w1 t1 sz E0 s t := z_thrown hpx hz hAe hP hK hD hS isC hn hC isT hT t hvm (by rw [ht]; exact Nat.le_refl _) (fun q _ => by rw [ht])
theorem z_cG {y : MethodName} {bytes : ByteArray} {maxL : Nat} {ret : Option FieldType} (h5 : Cond.code y bytes maxL ret ∈ z_Ts) (hg : goodWord (Cond.code y bytes maxL ret) = true) : GoodIn z_Ts [Cond.code y bytes maxL ret] := fun w hw => by
  cases List.mem_singleton.mp hw
  exact ⟨h5, good_of_word hg⟩
theorem z_cN {R : Room} {s : State} {args : Array Value} {own host : String} {index : Nat} {y : MethodName} {bytes : ByteArray} {maxL : Nat} {ret : Option FieldType} {rm : Room} {mc ms : Nat} (n : Nat) (hE : z_E s) (h1 : Cond.methodLinkNest own index y host ∈ z_Ts) (h4 : Cond.initialized y.cls ∈ z_Ts) (h5 : Cond.code y bytes maxL ret ∈ z_Ts) (hg : goodWord (Cond.code y bytes maxL ret) = true) (hrc : rm.cells = mc) (hrs : rm.slots = ms)
    (hd : y.cls ≠ "java/lang/invoke/MethodHandle" ∧ y.cls ≠ "java/lang/invoke/VarHandle" ∧ (parseMethodDescriptor y.desc).map (fun d => d.parameters.length) = some n) (hR : rm.frames + 1 ≤ R.frames ∧ 8 + (maxL + 11) + rm.locals ≤ R.locals) : va_CN R s args own index y host bytes maxL ret [Cond.code y bytes maxL ret] rm mc ms n :=
  va_cnB n (hE.ts (args := args)) (z_cG h5 hg) rfl hrc hrs (hE _ h1) (hE.ts _ h4) hd hR
