theorem z_cF {R : Room} {s : State} {args : Array Value} {own C : String} {index : Nat} {x y : MethodName} {bytes : ByteArray} {maxL : Nat} {ret : Option FieldType} {rm : Room} {mc ms : Nat} (n : Nat) (hE : z_E s) (h1 : Cond.methodLink own index x ∈ z_Ts) (h2 : Cond.selects C x y ∈ z_Ts) (h3 : Cond.instanceMethod y ∈ z_Ts) (h4 : Cond.initialized y.cls ∈ z_Ts) (h5 : Cond.code y bytes maxL ret ∈ z_Ts) (hg : goodWord (Cond.code y bytes maxL ret) = true) (hrc : rm.cells = mc) (hrs : rm.slots = ms) (hF : va_Fw C x y s)
    (hd : x.cls ≠ "java/lang/invoke/MethodHandle" ∧ x.cls ≠ "java/lang/invoke/VarHandle" ∧ (parseMethodDescriptor x.desc).map (fun d => d.parameters.length) = some n) (hR : rm.frames + 1 ≤ R.frames ∧ 8 + (maxL + 11) + rm.locals ≤ R.locals) : va_CI R s args own C index x y bytes maxL ret [Cond.code y bytes maxL ret] rm mc ms n := by
  refine ⟨⟨hrc, hrs, hR.1, hR.2, fun w hw a' U hW => ?_, List.mem_cons_self⟩, hE.ts _ h1, va_any rfl hF.1, va_any rfl hF.2.1, hE.ts _ h2, hE.ts _ h3, va_any rfl hF.2.2.1, va_any rfl hF.2.2.2.1, va_any rfl hF.2.2.2.2, hE.ts _ h4, hE.ts _ h5, ⟨hd.1, hd.2.1⟩, fun sig h => ?_⟩
  · cases List.mem_singleton.mp hw
    exact word_at hW (good_of_word hg) (hE.ts (args := args) _ h5)
  · have h2 := hd.2.2
    rw [h] at h2
    exact (Option.some.inj h2).symm
