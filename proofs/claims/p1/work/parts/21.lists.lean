theorem z_cF {R : Room} {s : State} {args : Array Value} {own C : String} {index : Nat} {x y : MethodName} {bytes : ByteArray} {maxL : Nat} {ret : Option FieldType} {rm : Room} {mc ms : Nat} (n : Nat) (hE : z_E s) (h1 : Cond.methodLink own index x ∈ z_Ts) (h2 : Cond.selects C x y ∈ z_Ts) (h3 : Cond.instanceMethod y ∈ z_Ts) (h4 : Cond.initialized y.cls ∈ z_Ts) (h5 : Cond.code y bytes maxL ret ∈ z_Ts) (hg : goodWord (Cond.code y bytes maxL ret) = true) (hrc : rm.cells = mc) (hrs : rm.slots = ms) (hF : va_Fw C x y s)
    (hd : x.cls ≠ "java/lang/invoke/MethodHandle" ∧ x.cls ≠ "java/lang/invoke/VarHandle" ∧ (parseMethodDescriptor x.desc).map (fun d => d.parameters.length) = some n) (hR : rm.frames + 1 ≤ R.frames ∧ 8 + (maxL + 11) + rm.locals ≤ R.locals) : va_CI R s args own C index x y bytes maxL ret [Cond.code y bytes maxL ret] rm mc ms n := by
  refine ⟨⟨hrc, hrs, hR.1, hR.2, fun w hw a' U hW => ?_, List.mem_cons_self⟩, hE.ts _ h1, va_any rfl hF.1, va_any rfl hF.2.1, hE.ts _ h2, hE.ts _ h3, va_any rfl hF.2.2.1, va_any rfl hF.2.2.2.1, va_any rfl hF.2.2.2.2, hE.ts _ h4, hE.ts _ h5, ⟨hd.1, hd.2.1⟩, fun sig h => ?_⟩
  · cases List.mem_singleton.mp hw
    exact word_at hW (good_of_word hg) (hE.ts (args := args) _ h5)
  · have h2 := hd.2.2
    rw [h] at h2
    exact (Option.some.inj h2).symm
theorem dJxa1e45_init_da8c8_0 : decode cJxa1e45_init_da8c8 0 = .ok (.aload_n 0, 1) := by decide +kernel
theorem dJxa1e45_init_da8c8_1 : decode cJxa1e45_init_da8c8 1 = .ok (.invokespecial 1, 3) := by decide +kernel
theorem zw_1062 : Cond.methodLink RJxa1e45 1 ⟨"java/lang/Object", "<init>", "()V"⟩ ∈ z_Ts := z_m 1062 (by decide +kernel) (by decide +kernel)
theorem dJxa1e45_init_da8c8_4 : decode cJxa1e45_init_da8c8 4 = .ok (.return_, 1) := by decide +kernel
set_option maxHeartbeats 4000000 in
set_option maxRecDepth 100000 in
theorem c_abc_init (l : Launch) (D : va_G) (h0 : Nat) (mc : Int32) (n0 : Int32) (sz : Nat)  : Met l yJxa1e45_init_da8c8 [Cond.code yJxa1e45_init_da8c8 cJxa1e45_init_da8c8 1 none] ({ frames := 1, cells := 0, slots := 0, locals := 30 }) (z_Pc D [.ref h0] [(h0, .inr (1, [.int mc, .null, .int n0]))] [] sz) (va_Qv (fun _ : Unit => True) (fun _ t => z_W D [(h0, .inr (1, [.int mc, .null, .int n0]))] [] (va_A [(h0, .inr (1, [.int mc, .null, .int n0]))] sz) t) (va_A [(h0, .inr (1, [.int mc, .null, .int n0]))] sz)) 0 0 (va_A [(h0, .inr (1, [.int mc, .null, .int n0]))] sz) := by
  refine Met.ofW (cc := cJxa1e45_init_da8c8) (maxL := 1) (ret := none) (by decide +kernel) rfl ?_
  intro p e s m args below meth c s₁ B hml hv
  obtain ⟨rfl, hsz, hP, hK, hD0, hE, hX0⟩ := hv
  have hx := B.exec
  have hb := B.bytes
  have hr := B.returns
  have hts := z_E.ts (args := [.ref h0].toArray) hE
  have hown : s.vm.findClass RJxa1e45 = some m.cls := findClass_of_methodNamed B.named
  have hlocks := B.notSynchronized
  have hin : meth.name = "<init>" := (name_of_methodNamed B.named B.method).1
  subst hsz
  have hD := hD0.self (sz := s.heap.size)
  generalize hAe : va_A [(h0, .inr (1, [.int mc, .null, .int n0]))] s.heap.size = A at hD hX0 ⊢
  have hX : z_X D A s s.heap := hX0
  have hA : ∀ q : Nat, s.heap.size ≤ q → A q := fun q h => by rw [← hAe]; exact Or.inr h
  have hS : va_S A s.heap s.heap [] := va_S.rf
  have hP : va_P D vwCl [(h0, .inr (1, [.int mc, .null, .int n0]))] s.heap := hP
  have hl := lv_entry ([.ref h0]) (n := 1) (Nat.le_of_ble_eq_true rfl)
  rw [lg_entry_eq]
  generalize (lg_sl ([.ref h0]) ++ List.replicate (1 - (lg_sl ([.ref h0])).length) Slot.unset).toArray = ls at hl ⊢
  have hl : lv_has ls 1 [(0, .ref h0)] := hl
  skip
  refine lv_aload_n hx hb dJxa1e45_init_da8c8_0 rfl (lv_at hl 0 rfl) ?_
  refine W.objInit hx hb hown (hts _ zw_1062) (hts _ zw_129) (hts _ zw_130) rfl (by rw [hml]; exact hl.1) rfl dJxa1e45_init_da8c8_1 (Nat.le_of_ble_eq_true rfl) (Nat.le_of_ble_eq_true rfl) ?_
  refine W.eq (g2 := F0 m 4 ls []) rfl ?_
  exact W.vret hx hb hr (fun t ht hW => ⟨⟨(), rfl, trivial, z_end hP hK hD [0] rfl rfl [] rfl ht hW.alike⟩, hS.F ht⟩) hS.2.2 dJxa1e45_init_da8c8_4
theorem dJxc12de_init_da8c8_0 : decode cJxc12de_init_da8c8 0 = .ok (.aload_n 0, 1) := by decide +kernel
theorem dJxc12de_init_da8c8_1 : decode cJxc12de_init_da8c8 1 = .ok (.invokespecial 1, 3) := by decide +kernel
theorem zw_1059 : Cond.methodLink RJxc12de 1 yJxa1e45_init_da8c8 ∈ z_Ts := z_m 1059 (by decide +kernel) (by decide +kernel)
theorem zw_97 : Cond.initialized RJxa1e45 ∈ z_Ts := z_m 97 (by decide +kernel) (by decide +kernel)
theorem zw_1061 : Cond.code yJxa1e45_init_da8c8 cJxa1e45_init_da8c8 1 none ∈ z_Ts := z_m 1061 (by decide +kernel) (by decide +kernel)
theorem zw_1060 : Cond.instanceMethod yJxa1e45_init_da8c8 ∈ z_Ts := z_m 1060 (by decide +kernel) (by decide +kernel)
theorem dJxc12de_init_da8c8_4 : decode cJxc12de_init_da8c8 4 = .ok (.aload_n 0, 1) := by decide +kernel
theorem dJxc12de_init_da8c8_5 : decode cJxc12de_init_da8c8 5 = .ok (.iconst 0, 1) := by decide +kernel
theorem dJxc12de_init_da8c8_6 : decode cJxc12de_init_da8c8 6 = .ok (.putfield 7, 3) := by decide +kernel
theorem zw_1069 : Cond.fieldLink RJxc12de 7 "java/util/AbstractList" "modCount" "I" ∈ z_Ts := z_m 1069 (by decide +kernel) (by decide +kernel)
theorem dJxc12de_init_da8c8_9 : decode cJxc12de_init_da8c8 9 = .ok (.return_, 1) := by decide +kernel
set_option maxHeartbeats 4000000 in
set_option maxRecDepth 100000 in
theorem c_abl_init (l : Launch) (D : va_G) (h0 : Nat) (mc : Int32) (n0 : Int32) (sz : Nat)  : Met l yJxc12de_init_da8c8 [Cond.code yJxc12de_init_da8c8 cJxc12de_init_da8c8 1 none] ({ frames := 2, cells := 0, slots := 0, locals := 60 }) (z_Pc D [.ref h0] [(h0, .inr (1, [.int mc, .null, .int n0]))] [] sz) (va_Qv (fun _ : Unit => True) (fun _ t => z_W D [(h0, .inr (1, [.int 0, .null, .int n0]))] [] (va_A [(h0, .inr (1, [.int mc, .null, .int n0]))] sz) t) (va_A [(h0, .inr (1, [.int mc, .null, .int n0]))] sz)) 0 0 (va_A [(h0, .inr (1, [.int mc, .null, .int n0]))] sz) := by
  refine Met.ofW (cc := cJxc12de_init_da8c8) (maxL := 1) (ret := none) (by decide +kernel) rfl ?_
  intro p e s m args below meth c s₁ B hml hv
  obtain ⟨rfl, hsz, hP, hK, hD0, hE, hX0⟩ := hv
  have hx := B.exec
  have hb := B.bytes
  have hr := B.returns
  have hts := z_E.ts (args := [.ref h0].toArray) hE
  have hown : s.vm.findClass RJxc12de = some m.cls := findClass_of_methodNamed B.named
  have hlocks := B.notSynchronized
  have hin : meth.name = "<init>" := (name_of_methodNamed B.named B.method).1
  subst hsz
  have hD := hD0.self (sz := s.heap.size)
  generalize hAe : va_A [(h0, .inr (1, [.int mc, .null, .int n0]))] s.heap.size = A at hD hX0 ⊢
  have hX : z_X D A s s.heap := hX0
  have hA : ∀ q : Nat, s.heap.size ≤ q → A q := fun q h => by rw [← hAe]; exact Or.inr h
  have hS : va_S A s.heap s.heap [] := va_S.rf
  have hP : va_P D vwCl [(h0, .inr (1, [.int mc, .null, .int n0]))] s.heap := hP
  have hl := lv_entry ([.ref h0]) (n := 1) (Nat.le_of_ble_eq_true rfl)
  rw [lg_entry_eq]
  generalize (lg_sl ([.ref h0]) ++ List.replicate (1 - (lg_sl ([.ref h0])).length) Slot.unset).toArray = ls at hl ⊢
  have hl : lv_has ls 1 [(0, .ref h0)] := hl
  skip
  refine lv_aload_n hx hb dJxc12de_init_da8c8_0 rfl (lv_at hl 0 rfl) ?_
  obtain ⟨hb_1, hc_1⟩ := z_call (wc := [(h0, .inr (1, [.int mc, .null, .int n0]))]) (tc := []) ([.ref h0]) hP hK hD hS hA hE hX [0] rfl rfl [] rfl
  have hF_1 := va_free (wc := [(h0, .inr (1, [.int mc, .null, .int n0]))]) hD hS hA [0] rfl
  refine va_callv (va_runI (As := []) (rest := []) ⟨hx, hb, hml, hown, hts⟩ (c_abc_init l D h0 mc n0 _ ) (⟨z_cB 0 hE zw_1059 zw_97 zw_1061 rfl rfl rfl (by decide +kernel) ⟨(Nat.le_of_ble_eq_true rfl), (Nat.le_of_ble_eq_true rfl)⟩, rfl, hE.ts _ zw_1060⟩) ⟨hb_1, hc_1⟩ rfl rfl hl.1 rfl (lv_room (Nat.le_of_ble_eq_true rfl)) dJxc12de_init_da8c8_1 ⟨(Nat.le_of_ble_eq_true rfl), (Nat.le_of_ble_eq_true rfl)⟩) hS (fun q _ h => hF_1 q h) hF_1 (fun u_1 t_1 H1 locs ht_1 hvm_1 hw_1 hB_1 hz_1 hk_1 hS1 => ?_)
  obtain ⟨hP, hK, hD⟩ := z_back (wc := [(h0, .inr (1, [.int mc, .null, .int n0]))]) (wr := []) (w1 := [(h0, .inr (1, [.int mc, .null, .int n0]))]) (tr := []) hP hK hD [0] [] rfl rfl rfl (by decide) ht_1 hvm_1 hk_1 hF_1 [] rfl hB_1
  have hS := hS1
  have hP : va_P D vwCl [(h0, .inr (1, [.int mc, .null, .int n0]))] H1 := hP
  have hD : va_D A [(h0, .inr (1, [.int mc, .null, .int n0]))] := hD
  have hK : va_K D vwCl [] s := hK
  clear hS1
  refine lv_aload_n hx hb dJxc12de_init_da8c8_4 rfl (lv_at hl 0 rfl) ?_
  refine lv_iconst (v := 0) hx hb dJxc12de_init_da8c8_5 (by decide) ?_
  refine va_put (D := D) (ci := 1) (v := .int 0) (ty := .int) (C := RJx4a65c) (T := TJx4a65c) (N := 3) hx hb hts zin_Jx4a65c tyJx4a65c tyJx4a65c_ok nmJx4a65c hown hK hP hD hS 0 rfl rfl 0 (by decide) (hts _ zw_1069) (fun _ h9 => h9) rfl (by decide +kernel) rfl rfl (Nat.le_of_ble_eq_true rfl) dJxc12de_init_da8c8_6 (fun H locs hP hD hS => ?_)
  have hP : va_P D vwCl [(h0, .inr (1, [.int 0, .null, .int n0]))] H := hP
  have hD : va_D A [(h0, .inr (1, [.int 0, .null, .int n0]))] := hD
  exact W.vret hx hb hr (fun t ht hW => ⟨⟨(), rfl, trivial, z_end hP hK hD [0] rfl rfl [] rfl ht hW.alike⟩, hS.F ht⟩) hS.2.2 dJxc12de_init_da8c8_9
theorem dJx4a65c_init_da8c8_0 : decode cJx4a65c_init_da8c8 0 = .ok (.aload_n 0, 1) := by decide +kernel
theorem dJx4a65c_init_da8c8_1 : decode cJx4a65c_init_da8c8 1 = .ok (.invokespecial 1, 3) := by decide +kernel
theorem zw_1056 : Cond.methodLink RJx4a65c 1 yJxc12de_init_da8c8 ∈ z_Ts := z_m 1056 (by decide +kernel) (by decide +kernel)
theorem zw_98 : Cond.initialized RJxc12de ∈ z_Ts := z_m 98 (by decide +kernel) (by decide +kernel)
theorem zw_1058 : Cond.code yJxc12de_init_da8c8 cJxc12de_init_da8c8 1 none ∈ z_Ts := z_m 1058 (by decide +kernel) (by decide +kernel)
theorem zw_1057 : Cond.instanceMethod yJxc12de_init_da8c8 ∈ z_Ts := z_m 1057 (by decide +kernel) (by decide +kernel)
theorem dJx4a65c_init_da8c8_4 : decode cJx4a65c_init_da8c8 4 = .ok (.aload_n 0, 1) := by decide +kernel
theorem dJx4a65c_init_da8c8_5 : decode cJx4a65c_init_da8c8 5 = .ok (.getstatic 39, 3) := by decide +kernel
theorem zw_1063 : Cond.fieldLink RJx4a65c 39 "java/util/ArrayList" "DEFAULTCAPACITY_EMPTY_ELEMENTDATA" "[Ljava/lang/Object;" ∈ z_Ts := z_m 1063 (by decide +kernel) (by decide +kernel)
theorem dJx4a65c_init_da8c8_8 : decode cJx4a65c_init_da8c8 8 = .ok (.putfield 9, 3) := by decide +kernel
theorem zw_1065 : Cond.fieldLink RJx4a65c 9 "java/util/ArrayList" "elementData" "[Ljava/lang/Object;" ∈ z_Ts := z_m 1065 (by decide +kernel) (by decide +kernel)
theorem dJx4a65c_init_da8c8_11 : decode cJx4a65c_init_da8c8 11 = .ok (.return_, 1) := by decide +kernel
set_option maxHeartbeats 4000000 in
set_option maxRecDepth 100000 in
theorem c_al_init (l : Launch) (D : va_G) (h0 : Nat) (sz : Nat)  : Met l yJx4a65c_init_da8c8 [Cond.code yJx4a65c_init_da8c8 cJx4a65c_init_da8c8 1 none] ({ frames := 3, cells := 0, slots := 0, locals := 100 }) (z_Pc D [.ref h0] [(h0, .inr (1, [.int 0, .null, .int 0]))] [] sz) (va_Qv (fun _ : Unit => True) (fun _ t => z_W D [(h0, .inr (1, [.int 0, .ref (D.2 50 0), .int 0]))] [] (va_A [(h0, .inr (1, [.int 0, .null, .int 0]))] sz) t) (va_A [(h0, .inr (1, [.int 0, .null, .int 0]))] sz)) 0 0 (va_A [(h0, .inr (1, [.int 0, .null, .int 0]))] sz) := by
  refine Met.ofW (cc := cJx4a65c_init_da8c8) (maxL := 1) (ret := none) (by decide +kernel) rfl ?_
  intro p e s m args below meth c s₁ B hml hv
  obtain ⟨rfl, hsz, hP, hK, hD0, hE, hX0⟩ := hv
  have hx := B.exec
  have hb := B.bytes
  have hr := B.returns
  have hts := z_E.ts (args := [.ref h0].toArray) hE
  have hown : s.vm.findClass RJx4a65c = some m.cls := findClass_of_methodNamed B.named
  have hlocks := B.notSynchronized
  have hin : meth.name = "<init>" := (name_of_methodNamed B.named B.method).1
  subst hsz
  have hD := hD0.self (sz := s.heap.size)
  generalize hAe : va_A [(h0, .inr (1, [.int 0, .null, .int 0]))] s.heap.size = A at hD hX0 ⊢
  have hX : z_X D A s s.heap := hX0
  have hA : ∀ q : Nat, s.heap.size ≤ q → A q := fun q h => by rw [← hAe]; exact Or.inr h
  have hS : va_S A s.heap s.heap [] := va_S.rf
  have hP : va_P D vwCl [(h0, .inr (1, [.int 0, .null, .int 0]))] s.heap := hP
  have hl := lv_entry ([.ref h0]) (n := 1) (Nat.le_of_ble_eq_true rfl)
  rw [lg_entry_eq]
  generalize (lg_sl ([.ref h0]) ++ List.replicate (1 - (lg_sl ([.ref h0])).length) Slot.unset).toArray = ls at hl ⊢
  have hl : lv_has ls 1 [(0, .ref h0)] := hl
  skip
  refine lv_aload_n hx hb dJx4a65c_init_da8c8_0 rfl (lv_at hl 0 rfl) ?_
  obtain ⟨hb_1, hc_1⟩ := z_call (wc := [(h0, .inr (1, [.int 0, .null, .int 0]))]) (tc := []) ([.ref h0]) hP hK hD hS hA hE hX [0] rfl rfl [] rfl
  have hF_1 := va_free (wc := [(h0, .inr (1, [.int 0, .null, .int 0]))]) hD hS hA [0] rfl
  refine va_callv (va_runI (As := []) (rest := []) ⟨hx, hb, hml, hown, hts⟩ (c_abl_init l D h0 0 0 _ ) (⟨z_cB 0 hE zw_1056 zw_98 zw_1058 rfl rfl rfl (by decide +kernel) ⟨(Nat.le_of_ble_eq_true rfl), (Nat.le_of_ble_eq_true rfl)⟩, rfl, hE.ts _ zw_1057⟩) ⟨hb_1, hc_1⟩ rfl rfl hl.1 rfl (lv_room (Nat.le_of_ble_eq_true rfl)) dJx4a65c_init_da8c8_1 ⟨(Nat.le_of_ble_eq_true rfl), (Nat.le_of_ble_eq_true rfl)⟩) hS (fun q _ h => hF_1 q h) hF_1 (fun u_1 t_1 H1 locs ht_1 hvm_1 hw_1 hB_1 hz_1 hk_1 hS1 => ?_)
  obtain ⟨hP, hK, hD⟩ := z_back (wc := [(h0, .inr (1, [.int 0, .null, .int 0]))]) (wr := []) (w1 := [(h0, .inr (1, [.int 0, .null, .int 0]))]) (tr := []) hP hK hD [0] [] rfl rfl rfl (by decide) ht_1 hvm_1 hk_1 hF_1 [] rfl hB_1
  have hS := hS1
  have hP : va_P D vwCl [(h0, .inr (1, [.int 0, .null, .int 0]))] H1 := hP
  have hD : va_D A [(h0, .inr (1, [.int 0, .null, .int 0]))] := hD
  have hK : va_K D vwCl [] s := hK
  clear hS1
  refine lv_aload_n hx hb dJx4a65c_init_da8c8_4 rfl (lv_at hl 0 rfl) ?_
  refine va_gets (v := .ref (D.2 50 0)) hx hb hX.2.2.1.1 hS hown (hts _ zw_1063) (fun _ h9 => h9) dJx4a65c_init_da8c8_5 ?_
  refine va_put (D := D) (ci := 1) (v := .ref (D.2 50 0)) (ty := .array (.object "java/lang/Object")) (C := RJx4a65c) (T := TJx4a65c) (N := 3) hx hb hts zin_Jx4a65c tyJx4a65c tyJx4a65c_ok nmJx4a65c hown hK hP hD hS 0 rfl rfl 1 (by decide) (hts _ zw_1065) (fun _ h9 => h9) rfl (by decide +kernel) rfl rfl (Nat.le_of_ble_eq_true rfl) dJx4a65c_init_da8c8_8 (fun H locs hP hD hS => ?_)
  have hP : va_P D vwCl [(h0, .inr (1, [.int 0, .ref (D.2 50 0), .int 0]))] H := hP
  have hD : va_D A [(h0, .inr (1, [.int 0, .ref (D.2 50 0), .int 0]))] := hD
  exact W.vret hx hb hr (fun t ht hW => ⟨⟨(), rfl, trivial, z_end hP hK hD [0] rfl rfl [] rfl ht hW.alike⟩, hS.F ht⟩) hS.2.2 dJx4a65c_init_da8c8_11
theorem dJx4a65c_isEmpty_aae02_0 : decode cJx4a65c_isEmpty_aae02 0 = .ok (.aload_n 0, 1) := by decide +kernel
theorem dJx4a65c_isEmpty_aae02_1 : decode cJx4a65c_isEmpty_aae02 1 = .ok (.getfield 48, 3) := by decide +kernel
theorem dJx4a65c_isEmpty_aae02_4 : decode cJx4a65c_isEmpty_aae02 4 = .ok (.ifCond .ne 7, 3) := by decide +kernel
theorem dJx4a65c_isEmpty_aae02_7 : decode cJx4a65c_isEmpty_aae02 7 = .ok (.iconst 1, 1) := by decide +kernel
theorem dJx4a65c_isEmpty_aae02_8 : decode cJx4a65c_isEmpty_aae02 8 = .ok (.goto 4, 3) := by decide +kernel
theorem dJx4a65c_isEmpty_aae02_12 : decode cJx4a65c_isEmpty_aae02 12 = .ok (.ireturn, 1) := by decide +kernel
set_option maxHeartbeats 4000000 in
set_option maxRecDepth 100000 in
theorem c_al_isEmpty (l : Launch) (D : va_G) (q : Nat) (mc : Int32) (ed : Nat) (sz : Nat)  : Met l yJx4a65c_isEmpty_aae02 [Cond.code yJx4a65c_isEmpty_aae02 cJx4a65c_isEmpty_aae02 1 (some .boolean)] ({ frames := 0, cells := 0, slots := 0, locals := 0 }) (z_Pc D [.ref q] [(q, .inr (1, [.int mc, .ref ed, .int 0]))] [] sz) (va_Qi (fun (r : Int32) (_ : Unit) => r = 1) (fun _ t => z_W D [(q, .inr (1, [.int mc, .ref ed, .int 0]))] [] (va_A [(q, .inr (1, [.int mc, .ref ed, .int 0]))] sz) t) (va_A [(q, .inr (1, [.int mc, .ref ed, .int 0]))] sz)) 0 0 (va_A [(q, .inr (1, [.int mc, .ref ed, .int 0]))] sz) := by
  refine Met.ofW (cc := cJx4a65c_isEmpty_aae02) (maxL := 1) (ret := (some .boolean)) (by decide +kernel) rfl ?_
  intro p e s m args below meth c s₁ B hml hv
  obtain ⟨rfl, hsz, hP, hK, hD0, hE, hX0⟩ := hv
  have hx := B.exec
  have hb := B.bytes
  have hr := B.returns
  have hts := z_E.ts (args := [.ref q].toArray) hE
  have hown : s.vm.findClass RJx4a65c = some m.cls := findClass_of_methodNamed B.named
  have hlocks := B.notSynchronized
  subst hsz
  have hD := hD0.self (sz := s.heap.size)
  generalize hAe : va_A [(q, .inr (1, [.int mc, .ref ed, .int 0]))] s.heap.size = A at hD hX0 ⊢
  have hX : z_X D A s s.heap := hX0
  have hA : ∀ q : Nat, s.heap.size ≤ q → A q := fun q h => by rw [← hAe]; exact Or.inr h
  have hS : va_S A s.heap s.heap [] := va_S.rf
  have hP : va_P D vwCl [(q, .inr (1, [.int mc, .ref ed, .int 0]))] s.heap := hP
  have hl := lv_entry ([.ref q]) (n := 1) (Nat.le_of_ble_eq_true rfl)
  rw [lg_entry_eq]
  generalize (lg_sl ([.ref q]) ++ List.replicate (1 - (lg_sl ([.ref q])).length) Slot.unset).toArray = ls at hl ⊢
  have hl : lv_has ls 1 [(0, .ref q)] := hl
  skip
  refine lv_aload_n hx hb dJx4a65c_isEmpty_aae02_0 rfl (lv_at hl 0 rfl) ?_
  refine va_get (D := D) (ci := 1) (v := .int 0) (C := RJx4a65c) (T := TJx4a65c) (N := 3) hx hb hts zin_Jx4a65c hown hK hP 0 rfl rfl 2 (by decide) (hts _ zw_1068) (fun _ h9 => h9) rfl dJx4a65c_isEmpty_aae02_1 ?_
  refine lv_if_ne (tgt := 11) hx hb dJx4a65c_isEmpty_aae02_4 (by decide) (fun c_1 => absurd (by decide) c_1) (fun c_1 => ?_)
  refine lv_iconst (v := 1) hx hb dJx4a65c_isEmpty_aae02_7 (by decide) ?_
  refine lv_goto (tgt := 12) hx hb dJx4a65c_isEmpty_aae02_8 (by decide) ?_
  exact W.zret (v := 1) hx hb hr (by first | rfl | decide) (fun t ht hW => ⟨⟨1, (), rfl, rfl, z_end hP hK hD [0] rfl rfl [] rfl ht hW.alike⟩, hS.F ht⟩) hS.2.2 dJx4a65c_isEmpty_aae02_12
theorem dJx35411_init_45d68_0 : decode cJx35411_init_45d68 0 = .ok (.aload_n 0, 1) := by decide +kernel
theorem dJx35411_init_45d68_1 : decode cJx35411_init_45d68 1 = .ok (.aload_n 1, 1) := by decide +kernel
theorem dJx35411_init_45d68_2 : decode cJx35411_init_45d68 2 = .ok (.putfield 1, 3) := by decide +kernel
theorem zw_1269 : Cond.fieldLink RJx35411 1 "java/util/ArrayList$Itr" "this$0" "Ljava/util/ArrayList;" ∈ z_Ts := z_m 1269 (by decide +kernel) (by decide +kernel)
set_option maxRecDepth 20000 in
theorem zin_Jx35411 : ∀ w ∈ u_ws RJx35411 TJx35411 4, w ∈ z_Ts := z_ins (by decide +kernel) (by decide +kernel)
theorem dJx35411_init_45d68_5 : decode cJx35411_init_45d68 5 = .ok (.aload_n 0, 1) := by decide +kernel
theorem dJx35411_init_45d68_6 : decode cJx35411_init_45d68 6 = .ok (.invokespecial 7, 3) := by decide +kernel
theorem zw_1265 : Cond.methodLink RJx35411 7 ⟨"java/lang/Object", "<init>", "()V"⟩ ∈ z_Ts := z_m 1265 (by decide +kernel) (by decide +kernel)
theorem dJx35411_init_45d68_9 : decode cJx35411_init_45d68 9 = .ok (.aload_n 0, 1) := by decide +kernel
theorem dJx35411_init_45d68_10 : decode cJx35411_init_45d68 10 = .ok (.iconst (-1), 1) := by decide +kernel
theorem dJx35411_init_45d68_11 : decode cJx35411_init_45d68 11 = .ok (.putfield 13, 3) := by decide +kernel
theorem zw_1267 : Cond.fieldLink RJx35411 13 "java/util/ArrayList$Itr" "lastRet" "I" ∈ z_Ts := z_m 1267 (by decide +kernel) (by decide +kernel)
theorem dJx35411_init_45d68_14 : decode cJx35411_init_45d68 14 = .ok (.aload_n 0, 1) := by decide +kernel
theorem dJx35411_init_45d68_15 : decode cJx35411_init_45d68 15 = .ok (.aload_n 0, 1) := by decide +kernel
theorem dJx35411_init_45d68_16 : decode cJx35411_init_45d68 16 = .ok (.getfield 1, 3) := by decide +kernel
theorem dJx35411_init_45d68_19 : decode cJx35411_init_45d68 19 = .ok (.getfield 17, 3) := by decide +kernel
theorem zw_1070 : Cond.fieldLink RJx35411 17 "java/util/ArrayList" "modCount" "I" ∈ z_Ts := z_m 1070 (by decide +kernel) (by decide +kernel)
theorem zw_1071 : Cond.sameField "java/util/ArrayList" "java/util/AbstractList" "modCount" "I" ∈ z_Ts := z_m 1071 (by decide +kernel) (by decide +kernel)
theorem dJx35411_init_45d68_22 : decode cJx35411_init_45d68 22 = .ok (.putfield 22, 3) := by decide +kernel
theorem zw_1268 : Cond.fieldLink RJx35411 22 "java/util/ArrayList$Itr" "expectedModCount" "I" ∈ z_Ts := z_m 1268 (by decide +kernel) (by decide +kernel)
theorem dJx35411_init_45d68_25 : decode cJx35411_init_45d68 25 = .ok (.return_, 1) := by decide +kernel
set_option maxHeartbeats 4000000 in
set_option maxRecDepth 100000 in
theorem c_itr_init (l : Launch) (D : va_G) (i0 : Nat) (q : Nat) (ed : Nat) (sz : Nat)  : Met l yJx35411_init_45d68 [Cond.code yJx35411_init_45d68 cJx35411_init_45d68 2 none] ({ frames := 1, cells := 0, slots := 0, locals := 30 }) (z_Pc D [.ref i0, .ref q] [(i0, .inr (0, [.int 0, .int 0, .int 0, .null])), (q, .inr (1, [.int 0, .ref ed, .int 0]))] [] sz) (va_Qv (fun _ : Unit => True) (fun _ t => z_W D [(i0, .inr (0, [.int 0, .int (-1), .int 0, .ref q])), (q, .inr (1, [.int 0, .ref ed, .int 0]))] [] (va_A [(i0, .inr (0, [.int 0, .int 0, .int 0, .null])), (q, .inr (1, [.int 0, .ref ed, .int 0]))] sz) t) (va_A [(i0, .inr (0, [.int 0, .int 0, .int 0, .null])), (q, .inr (1, [.int 0, .ref ed, .int 0]))] sz)) 0 0 (va_A [(i0, .inr (0, [.int 0, .int 0, .int 0, .null])), (q, .inr (1, [.int 0, .ref ed, .int 0]))] sz) := by
  refine Met.ofW (cc := cJx35411_init_45d68) (maxL := 2) (ret := none) (by decide +kernel) rfl ?_
  intro p e s m args below meth c s₁ B hml hv
  obtain ⟨rfl, hsz, hP, hK, hD0, hE, hX0⟩ := hv
  have hx := B.exec
  have hb := B.bytes
  have hr := B.returns
  have hts := z_E.ts (args := [.ref i0, .ref q].toArray) hE
  have hown : s.vm.findClass RJx35411 = some m.cls := findClass_of_methodNamed B.named
  have hlocks := B.notSynchronized
  have hin : meth.name = "<init>" := (name_of_methodNamed B.named B.method).1
  subst hsz
  have hD := hD0.self (sz := s.heap.size)
  generalize hAe : va_A [(i0, .inr (0, [.int 0, .int 0, .int 0, .null])), (q, .inr (1, [.int 0, .ref ed, .int 0]))] s.heap.size = A at hD hX0 ⊢
  have hX : z_X D A s s.heap := hX0
  have hA : ∀ q : Nat, s.heap.size ≤ q → A q := fun q h => by rw [← hAe]; exact Or.inr h
  have hS : va_S A s.heap s.heap [] := va_S.rf
  have hP : va_P D vwCl [(i0, .inr (0, [.int 0, .int 0, .int 0, .null])), (q, .inr (1, [.int 0, .ref ed, .int 0]))] s.heap := hP
  have hl := lv_entry ([.ref i0, .ref q]) (n := 2) (Nat.le_of_ble_eq_true rfl)
  rw [lg_entry_eq]
  generalize (lg_sl ([.ref i0, .ref q]) ++ List.replicate (2 - (lg_sl ([.ref i0, .ref q])).length) Slot.unset).toArray = ls at hl ⊢
  have hl : lv_has ls 2 [(0, .ref i0), (1, .ref q)] := hl
  skip
  refine lv_aload_n hx hb dJx35411_init_45d68_0 rfl (lv_at hl 0 rfl) ?_
  refine lv_aload_n hx hb dJx35411_init_45d68_1 rfl (lv_at hl 1 rfl) ?_
  refine va_putF (D := D) (ci := 0) (v := .ref q) (ty := .object "java/util/ArrayList") (C := RJx35411) (T := TJx35411) (N := 4) hx hb hts zin_Jx35411 tyJx35411 tyJx35411_ok nmJx35411 hown hK hP hD hS 0 rfl rfl 3 (by decide) (hts _ zw_1269) (fun _ h9 => h9) rfl hin rfl (by decide +kernel) rfl rfl (Nat.le_of_ble_eq_true rfl) dJx35411_init_45d68_2 (fun H locs hP hD hS => ?_)
  have hP : va_P D vwCl [(i0, .inr (0, [.int 0, .int 0, .int 0, .ref q])), (q, .inr (1, [.int 0, .ref ed, .int 0]))] H := hP
  have hD : va_D A [(i0, .inr (0, [.int 0, .int 0, .int 0, .ref q])), (q, .inr (1, [.int 0, .ref ed, .int 0]))] := hD
  refine lv_aload_n hx hb dJx35411_init_45d68_5 rfl (lv_at hl 0 rfl) ?_
  refine W.objInit hx hb hown (hts _ zw_1265) (hts _ zw_129) (hts _ zw_130) rfl (by rw [hml]; exact hl.1) rfl dJx35411_init_45d68_6 (Nat.le_of_ble_eq_true rfl) (Nat.le_of_ble_eq_true rfl) ?_
  refine W.eq (g2 := F0 m 9 ls []) rfl ?_
  refine lv_aload_n hx hb dJx35411_init_45d68_9 rfl (lv_at hl 0 rfl) ?_
  refine lv_iconst (v := -1) hx hb dJx35411_init_45d68_10 (by decide) ?_
  refine va_put (D := D) (ci := 0) (v := .int (-1)) (ty := .int) (C := RJx35411) (T := TJx35411) (N := 4) hx hb hts zin_Jx35411 tyJx35411 tyJx35411_ok nmJx35411 hown hK hP hD hS 0 rfl rfl 1 (by decide) (hts _ zw_1267) (fun _ h9 => h9) rfl (by decide +kernel) rfl rfl (Nat.le_of_ble_eq_true rfl) dJx35411_init_45d68_11 (fun H locs hP hD hS => ?_)
  have hP : va_P D vwCl [(i0, .inr (0, [.int 0, .int (-1), .int 0, .ref q])), (q, .inr (1, [.int 0, .ref ed, .int 0]))] H := hP
  have hD : va_D A [(i0, .inr (0, [.int 0, .int (-1), .int 0, .ref q])), (q, .inr (1, [.int 0, .ref ed, .int 0]))] := hD
  refine lv_aload_n hx hb dJx35411_init_45d68_14 rfl (lv_at hl 0 rfl) ?_
  refine lv_aload_n hx hb dJx35411_init_45d68_15 rfl (lv_at hl 0 rfl) ?_
  refine va_get (D := D) (ci := 0) (v := .ref q) (C := RJx35411) (T := TJx35411) (N := 4) hx hb hts zin_Jx35411 hown hK hP 0 rfl rfl 3 (by decide) (hts _ zw_1269) (fun _ h9 => h9) rfl dJx35411_init_45d68_16 ?_
  refine va_get (D := D) (ci := 1) (v := .int 0) (C := RJx4a65c) (T := TJx4a65c) (N := 3) hx hb hts zin_Jx4a65c hown hK hP 1 rfl rfl 0 (by decide) (hts _ zw_1070) (u_same (hts _ zw_1071)) rfl dJx35411_init_45d68_19 ?_
  refine va_put (D := D) (ci := 0) (v := .int 0) (ty := .int) (C := RJx35411) (T := TJx35411) (N := 4) hx hb hts zin_Jx35411 tyJx35411 tyJx35411_ok nmJx35411 hown hK hP hD hS 0 rfl rfl 2 (by decide) (hts _ zw_1268) (fun _ h9 => h9) rfl (by decide +kernel) rfl rfl (Nat.le_of_ble_eq_true rfl) dJx35411_init_45d68_22 (fun H locs hP hD hS => ?_)
  have hP : va_P D vwCl [(i0, .inr (0, [.int 0, .int (-1), .int 0, .ref q])), (q, .inr (1, [.int 0, .ref ed, .int 0]))] H := hP
  have hD : va_D A [(i0, .inr (0, [.int 0, .int (-1), .int 0, .ref q])), (q, .inr (1, [.int 0, .ref ed, .int 0]))] := hD
  exact W.vret hx hb hr (fun t ht hW => ⟨⟨(), rfl, trivial, z_end hP hK hD [0, 1] rfl rfl [] rfl ht hW.alike⟩, hS.F ht⟩) hS.2.2 dJx35411_init_45d68_25
theorem dJx35411_hasNext_aae02_0 : decode cJx35411_hasNext_aae02 0 = .ok (.aload_n 0, 1) := by decide +kernel
theorem dJx35411_hasNext_aae02_1 : decode cJx35411_hasNext_aae02 1 = .ok (.getfield 25, 3) := by decide +kernel
theorem zw_1266 : Cond.fieldLink RJx35411 25 "java/util/ArrayList$Itr" "cursor" "I" ∈ z_Ts := z_m 1266 (by decide +kernel) (by decide +kernel)
theorem dJx35411_hasNext_aae02_4 : decode cJx35411_hasNext_aae02 4 = .ok (.aload_n 0, 1) := by decide +kernel
theorem dJx35411_hasNext_aae02_5 : decode cJx35411_hasNext_aae02 5 = .ok (.getfield 1, 3) := by decide +kernel
theorem dJx35411_hasNext_aae02_8 : decode cJx35411_hasNext_aae02 8 = .ok (.getfield 28, 3) := by decide +kernel
theorem zw_1067 : Cond.fieldLinkNest RJx35411 28 "java/util/ArrayList" "size" "I" "java/util/ArrayList" ∈ z_Ts := z_m 1067 (by decide +kernel) (by decide +kernel)
theorem dJx35411_hasNext_aae02_11 : decode cJx35411_hasNext_aae02 11 = .ok (.if_icmp .eq 7, 3) := by decide +kernel
theorem dJx35411_hasNext_aae02_18 : decode cJx35411_hasNext_aae02 18 = .ok (.iconst 0, 1) := by decide +kernel
theorem dJx35411_hasNext_aae02_19 : decode cJx35411_hasNext_aae02 19 = .ok (.ireturn, 1) := by decide +kernel
set_option maxHeartbeats 4000000 in
set_option maxRecDepth 100000 in
theorem c_itr_hasNext (l : Launch) (D : va_G) (i0 : Nat) (q : Nat) (ed : Nat) (sz : Nat)  : Met l yJx35411_hasNext_aae02 [Cond.code yJx35411_hasNext_aae02 cJx35411_hasNext_aae02 1 (some .boolean)] ({ frames := 0, cells := 0, slots := 0, locals := 0 }) (z_Pc D [.ref i0] [(i0, .inr (0, [.int 0, .int (-1), .int 0, .ref q])), (q, .inr (1, [.int 0, .ref ed, .int 0]))] [] sz) (va_Qi (fun (r : Int32) (_ : Unit) => r = 0) (fun _ t => z_W D [(i0, .inr (0, [.int 0, .int (-1), .int 0, .ref q])), (q, .inr (1, [.int 0, .ref ed, .int 0]))] [] (va_A [(i0, .inr (0, [.int 0, .int (-1), .int 0, .ref q])), (q, .inr (1, [.int 0, .ref ed, .int 0]))] sz) t) (va_A [(i0, .inr (0, [.int 0, .int (-1), .int 0, .ref q])), (q, .inr (1, [.int 0, .ref ed, .int 0]))] sz)) 0 0 (va_A [(i0, .inr (0, [.int 0, .int (-1), .int 0, .ref q])), (q, .inr (1, [.int 0, .ref ed, .int 0]))] sz) := by
  refine Met.ofW (cc := cJx35411_hasNext_aae02) (maxL := 1) (ret := (some .boolean)) (by decide +kernel) rfl ?_
  intro p e s m args below meth c s₁ B hml hv
  obtain ⟨rfl, hsz, hP, hK, hD0, hE, hX0⟩ := hv
  have hx := B.exec
  have hb := B.bytes
  have hr := B.returns
  have hts := z_E.ts (args := [.ref i0].toArray) hE
  have hown : s.vm.findClass RJx35411 = some m.cls := findClass_of_methodNamed B.named
  have hlocks := B.notSynchronized
  subst hsz
  have hD := hD0.self (sz := s.heap.size)
  generalize hAe : va_A [(i0, .inr (0, [.int 0, .int (-1), .int 0, .ref q])), (q, .inr (1, [.int 0, .ref ed, .int 0]))] s.heap.size = A at hD hX0 ⊢
  have hX : z_X D A s s.heap := hX0
  have hA : ∀ q : Nat, s.heap.size ≤ q → A q := fun q h => by rw [← hAe]; exact Or.inr h
  have hS : va_S A s.heap s.heap [] := va_S.rf
  have hP : va_P D vwCl [(i0, .inr (0, [.int 0, .int (-1), .int 0, .ref q])), (q, .inr (1, [.int 0, .ref ed, .int 0]))] s.heap := hP
  have hl := lv_entry ([.ref i0]) (n := 1) (Nat.le_of_ble_eq_true rfl)
  rw [lg_entry_eq]
  generalize (lg_sl ([.ref i0]) ++ List.replicate (1 - (lg_sl ([.ref i0])).length) Slot.unset).toArray = ls at hl ⊢
  have hl : lv_has ls 1 [(0, .ref i0)] := hl
  skip
  refine lv_aload_n hx hb dJx35411_hasNext_aae02_0 rfl (lv_at hl 0 rfl) ?_
  refine va_get (D := D) (ci := 0) (v := .int 0) (C := RJx35411) (T := TJx35411) (N := 4) hx hb hts zin_Jx35411 hown hK hP 0 rfl rfl 0 (by decide) (hts _ zw_1266) (fun _ h9 => h9) rfl dJx35411_hasNext_aae02_1 ?_
  refine lv_aload_n hx hb dJx35411_hasNext_aae02_4 rfl (lv_at hl 0 rfl) ?_
  refine va_get (D := D) (ci := 0) (v := .ref q) (C := RJx35411) (T := TJx35411) (N := 4) hx hb hts zin_Jx35411 hown hK hP 0 rfl rfl 3 (by decide) (hts _ zw_1269) (fun _ h9 => h9) rfl dJx35411_hasNext_aae02_5 ?_
  refine va_getN (D := D) (ci := 1) (v := .int 0) (C := RJx4a65c) (T := TJx4a65c) (N := 3) hx hb hts zin_Jx4a65c hown hK hP 1 rfl rfl 2 (by decide) (hts _ zw_1067) (fun _ h9 => h9) rfl dJx35411_hasNext_aae02_8 ?_
  refine lv_icmp_eq (tgt := 18) hx hb dJx35411_hasNext_aae02_11 (by decide) (fun c_1 => ?_) (fun c_1 => absurd (by decide) c_1)
  refine lv_iconst (v := 0) hx hb dJx35411_hasNext_aae02_18 (by decide) ?_
  exact W.zret (v := 0) hx hb hr (by first | rfl | decide) (fun t ht hW => ⟨⟨0, (), rfl, rfl, z_end hP hK hD [0, 1] rfl rfl [] rfl ht hW.alike⟩, hS.F ht⟩) hS.2.2 dJx35411_hasNext_aae02_19
theorem dJx4a65c_iterator_32c93_0 : decode cJx4a65c_iterator_32c93 0 = .ok (.new 267, 3) := by decide +kernel
theorem zw_1260 : Cond.classLink RJx4a65c 267 RJx35411 ∈ z_Ts := z_m 1260 (by decide +kernel) (by decide +kernel)
theorem zw_1261 : Cond.instantiable RJx35411 4 ∈ z_Ts := z_m 1261 (by decide +kernel) (by decide +kernel)
theorem zw_115 : Cond.initialized RJx35411 ∈ z_Ts := z_m 115 (by decide +kernel) (by decide +kernel)
theorem dJx4a65c_iterator_32c93_3 : decode cJx4a65c_iterator_32c93 3 = .ok (.dup, 1) := by decide +kernel
theorem dJx4a65c_iterator_32c93_4 : decode cJx4a65c_iterator_32c93 4 = .ok (.aload_n 0, 1) := by decide +kernel
theorem dJx4a65c_iterator_32c93_5 : decode cJx4a65c_iterator_32c93 5 = .ok (.invokespecial 269, 3) := by decide +kernel
theorem zw_1262 : Cond.methodLink RJx4a65c 269 yJx35411_init_45d68 ∈ z_Ts := z_m 1262 (by decide +kernel) (by decide +kernel)
theorem zw_1264 : Cond.code yJx35411_init_45d68 cJx35411_init_45d68 2 none ∈ z_Ts := z_m 1264 (by decide +kernel) (by decide +kernel)
theorem zw_1263 : Cond.instanceMethod yJx35411_init_45d68 ∈ z_Ts := z_m 1263 (by decide +kernel) (by decide +kernel)
theorem dJx4a65c_iterator_32c93_8 : decode cJx4a65c_iterator_32c93 8 = .ok (.areturn, 1) := by decide +kernel
set_option maxHeartbeats 4000000 in
set_option maxRecDepth 100000 in
theorem c_al_iterator (l : Launch) (D : va_G) (q : Nat) (ed : Nat) (sz : Nat)  : Met l yJx4a65c_iterator_32c93 [Cond.code yJx4a65c_iterator_32c93 cJx4a65c_iterator_32c93 1 (some (.object "java/util/Iterator"))] ({ frames := 2, cells := 1, slots := 4, locals := 60 }) (z_Pc D [.ref q] [(q, .inr (1, [.int 0, .ref ed, .int 0]))] [] sz) (va_Qr (fun _ : Unit => True) (fun _ r t => z_W D [(q, .inr (1, [.int 0, .ref ed, .int 0])), (r, .inr (0, [.int 0, .int (-1), .int 0, .ref q]))] [] (va_A [(q, .inr (1, [.int 0, .ref ed, .int 0]))] sz) t) (va_A [(q, .inr (1, [.int 0, .ref ed, .int 0]))] sz)) 1 4 (va_A [(q, .inr (1, [.int 0, .ref ed, .int 0]))] sz) := by
  refine Met.ofW (cc := cJx4a65c_iterator_32c93) (maxL := 1) (ret := (some (.object "java/util/Iterator"))) (by decide +kernel) rfl ?_
  intro p e s m args below meth c s₁ B hml hv
  obtain ⟨rfl, hsz, hP, hK, hD0, hE, hX0⟩ := hv
  have hx := B.exec
  have hb := B.bytes
  have hr := B.returns
  have hts := z_E.ts (args := [.ref q].toArray) hE
  have hown : s.vm.findClass RJx4a65c = some m.cls := findClass_of_methodNamed B.named
  have hlocks := B.notSynchronized
  subst hsz
  have hD := hD0.self (sz := s.heap.size)
  generalize hAe : va_A [(q, .inr (1, [.int 0, .ref ed, .int 0]))] s.heap.size = A at hD hX0 ⊢
  have hX : z_X D A s s.heap := hX0
  have hA : ∀ q : Nat, s.heap.size ≤ q → A q := fun q h => by rw [← hAe]; exact Or.inr h
  have hS : va_S A s.heap s.heap [] := va_S.rf
  have hP : va_P D vwCl [(q, .inr (1, [.int 0, .ref ed, .int 0]))] s.heap := hP
  have hl := lv_entry ([.ref q]) (n := 1) (Nat.le_of_ble_eq_true rfl)
  rw [lg_entry_eq]
  generalize (lg_sl ([.ref q]) ++ List.replicate (1 - (lg_sl ([.ref q])).length) Slot.unset).toArray = ls at hl ⊢
  have hl : lv_has ls 1 [(0, .ref q)] := hl
  skip
  refine va_new (ci := 0) (fs := [.int 0, .int 0, .int 0, .null]) (C := RJx35411) (T := TJx35411) (N := 4) hx hb hts zin_Jx35411 tyJx35411 tyJx35411_ok hown (hts _ zw_1260) (hts _ zw_1261) (hts _ zw_115) hK hP hD hS hA rfl (fun j hj => by rcases (show j = 0 ∨ j = 1 ∨ j = 2 ∨ j = 3 by omega) with rfl | rfl | rfl | rfl <;> rfl) (Nat.le_of_ble_eq_true rfl) (Nat.le_of_ble_eq_true rfl) dJx4a65c_iterator_32c93_0 (fun q_1 H hP hD hS => ?_)
  have hP : va_P D vwCl [(q, .inr (1, [.int 0, .ref ed, .int 0])), (q_1, .inr (0, [.int 0, .int 0, .int 0, .null]))] H := hP
  have hD : va_D A [(q, .inr (1, [.int 0, .ref ed, .int 0])), (q_1, .inr (0, [.int 0, .int 0, .int 0, .null]))] := hD
  refine lv_dup hx hb dJx4a65c_iterator_32c93_3 rfl ?_
  refine lv_aload_n hx hb dJx4a65c_iterator_32c93_4 rfl (lv_at hl 0 rfl) ?_
  obtain ⟨hb_2, hc_2⟩ := z_call (wc := [(q_1, .inr (0, [.int 0, .int 0, .int 0, .null])), (q, .inr (1, [.int 0, .ref ed, .int 0]))]) (tc := []) ([.ref q_1, .ref q]) hP hK hD hS hA hE hX [1, 0] rfl rfl [] rfl
  have hF_2 := va_free (wc := [(q_1, .inr (0, [.int 0, .int 0, .int 0, .null])), (q, .inr (1, [.int 0, .ref ed, .int 0]))]) hD hS hA [1, 0] rfl
  refine va_callv (va_runI (As := [.ref q]) (rest := [.ref q_1]) ⟨hx, hb, hml, hown, hts⟩ (c_itr_init l D q_1 q ed _ ) (⟨z_cB 1 hE zw_1262 zw_115 zw_1264 rfl rfl rfl (by decide +kernel) ⟨(Nat.le_of_ble_eq_true rfl), (Nat.le_of_ble_eq_true rfl)⟩, rfl, hE.ts _ zw_1263⟩) ⟨hb_2, hc_2⟩ rfl rfl hl.1 rfl (lv_room (Nat.le_of_ble_eq_true rfl)) dJx4a65c_iterator_32c93_5 ⟨(Nat.le_of_ble_eq_true rfl), (Nat.le_of_ble_eq_true rfl)⟩) hS (fun q _ h => hF_2 q h) hF_2 (fun u_2 t_2 H1 locs ht_2 hvm_2 hw_2 hB_2 hz_2 hk_2 hS1 => ?_)
  obtain ⟨hP, hK, hD⟩ := z_back (wc := [(q_1, .inr (0, [.int 0, .int 0, .int 0, .null])), (q, .inr (1, [.int 0, .ref ed, .int 0]))]) (wr := []) (w1 := [(q_1, .inr (0, [.int 0, .int (-1), .int 0, .ref q])), (q, .inr (1, [.int 0, .ref ed, .int 0]))]) (tr := []) hP hK hD [1, 0] [] rfl rfl rfl (by decide) ht_2 hvm_2 hk_2 hF_2 [] rfl hB_2
  have hS := hS1
  have hP : va_P D vwCl [(q_1, .inr (0, [.int 0, .int (-1), .int 0, .ref q])), (q, .inr (1, [.int 0, .ref ed, .int 0]))] H1 := hP
  have hD : va_D A [(q_1, .inr (0, [.int 0, .int (-1), .int 0, .ref q])), (q, .inr (1, [.int 0, .ref ed, .int 0]))] := hD
  have hK : va_K D vwCl [] s := hK
  clear hS1
  exact W.aret (v := .ref q_1) hx hb hr (Or.inl ⟨_, rfl⟩) (Or.inr ⟨_, rfl⟩) (fun t ht hW => ⟨⟨(), q_1, rfl, trivial, z_end hP hK hD [1, 0] rfl rfl [] rfl ht hW.alike⟩, hS.F ht⟩) hS.2.2 dJx4a65c_iterator_32c93_8
