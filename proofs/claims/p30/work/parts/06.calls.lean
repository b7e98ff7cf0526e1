/-! ===== entries, ends, calls, new things ===== -/
section VE
variable {p : Program} {l : Launch} {e : Env} {R : Room} {s : State} {m : MethodId} {args : Array Value} {below : List Frame} {meth : Method} {c : Code} {Q : State → Prop} {G : VG} {A : Nat → Prop} {nL : Nat} {cc : ByteArray} {own : String} {ps : List va_W} {k n pc : Nat} {L : List (Nat × Value)} {st rest : List Value}
abbrev Bu (G : VG) (A : Nat → Prop) : List va_W → State → Prop := fun u t => wB G A u t
abbrev QcI (G : VG) (A : Nat → Prop) (post : Int32 → List va_W → Prop) := va_Qi post (Bu G A) A
abbrev QcV (G : VG) (A : Nat → Prop) (post : List va_W → Prop) := va_Qv post (Bu G A) A
abbrev QcL (G : VG) (A : Nat → Prop) (post : Int64 → List va_W → Prop) := va_Ql post (Bu G A) A
abbrev QcR (G : VG) (A : Nat → Prop) (post : Nat → List va_W → Prop) := va_Qr (S := Nat × List va_W) (fun u => post u.1 u.2) (fun u a t => a = u.1 ∧ wB G A u.2 t) A
theorem Mi_of {y : MethodName} {ret : FieldType} {fr lo mc ms : Nat} {av : List Value} {pre : List va_W} {post : Int32 → List va_W → Prop} (hy : plainName y.cls = true) (hav : (lg_sl av).length ≤ nL)
    (body : ∀ (p : Program) (e : Env) (s : State) (m : MethodId) (args : Array Value) (below : List Frame) (meth : Method) (c : Code) (A : Nat → Prop) (Q : State → Prop), VC p s m args meth c G A nL cc y.cls → meth.sig.returnType = some ret → meth.name = y.name → Q = MQ below (QcI G A post) args s mc ms A →
      V p l e { frames := fr, cells := mc, slots := ms, locals := lo } s m args below meth c Q G A nL pre 0 0 0 (lv_args 0 av) []) : Mi l G y cc nL ret fr lo mc ms av pre post := by
  intro sz
  refine Met.ofW (cc := cc) (maxL := nL) (ret := some ret) hy rfl ?_
  intro p e s m args below meth c s₁ B hml hv
  obtain ⟨rfl, hsz, ⟨hP, hK, hD⟩, hST⟩ := hv
  subst hsz
  have hts := atoms_spec (ws := lw_ws y cc nL (some ret)) B.pre
  have hn := name_of_methodNamed B.named B.method
  have C : VC p s m av.toArray meth c G (va_A pre.flatten s.heap.size) nL cc y.cls := ⟨B.exec, B.bytes, hml, findClass_of_methodNamed B.named, fun w hw => hts w (List.mem_cons_of_mem _ hw), hK, fun q h => Or.inr h, hST, B.notSynchronized⟩
  have hl := lv_entry av hav
  rw [lg_entry_eq]
  exact body p e s m av.toArray below meth c _ _ C B.returns hn.1 rfl s.heap [] _ hP hD.self va_S.rf hl
theorem Mv_of {y : MethodName} {fr lo mc ms : Nat} {av : List Value} {pre : List va_W} {post : List va_W → Prop} (hy : plainName y.cls = true) (hav : (lg_sl av).length ≤ nL)
    (body : ∀ (p : Program) (e : Env) (s : State) (m : MethodId) (args : Array Value) (below : List Frame) (meth : Method) (c : Code) (A : Nat → Prop) (Q : State → Prop), VC p s m args meth c G A nL cc y.cls → meth.sig.returnType = none → meth.name = y.name → Q = MQ below (QcV G A post) args s mc ms A →
      V p l e { frames := fr, cells := mc, slots := ms, locals := lo } s m args below meth c Q G A nL pre 0 0 0 (lv_args 0 av) []) : Mv l G y cc nL fr lo mc ms av pre post := by
  intro sz
  refine Met.ofW (cc := cc) (maxL := nL) (ret := none) hy rfl ?_
  intro p e s m args below meth c s₁ B hml hv
  obtain ⟨rfl, hsz, ⟨hP, hK, hD⟩, hST⟩ := hv
  subst hsz
  have hts := atoms_spec (ws := lw_ws y cc nL (none)) B.pre
  have hn := name_of_methodNamed B.named B.method
  have C : VC p s m av.toArray meth c G (va_A pre.flatten s.heap.size) nL cc y.cls := ⟨B.exec, B.bytes, hml, findClass_of_methodNamed B.named, fun w hw => hts w (List.mem_cons_of_mem _ hw), hK, fun q h => Or.inr h, hST, B.notSynchronized⟩
  have hl := lv_entry av hav
  rw [lg_entry_eq]
  exact body p e s m av.toArray below meth c _ _ C B.returns hn.1 rfl s.heap [] _ hP hD.self va_S.rf hl
theorem Ml_of {y : MethodName} {fr lo mc ms : Nat} {av : List Value} {pre : List va_W} {post : Int64 → List va_W → Prop} (hy : plainName y.cls = true) (hav : (lg_sl av).length ≤ nL)
    (body : ∀ (p : Program) (e : Env) (s : State) (m : MethodId) (args : Array Value) (below : List Frame) (meth : Method) (c : Code) (A : Nat → Prop) (Q : State → Prop), VC p s m args meth c G A nL cc y.cls → meth.sig.returnType = some .long → meth.name = y.name → Q = MQ below (QcL G A post) args s mc ms A →
      V p l e { frames := fr, cells := mc, slots := ms, locals := lo } s m args below meth c Q G A nL pre 0 0 0 (lv_args 0 av) []) : Ml l G y cc nL fr lo mc ms av pre post := by
  intro sz
  refine Met.ofW (cc := cc) (maxL := nL) (ret := some .long) hy rfl ?_
  intro p e s m args below meth c s₁ B hml hv
  obtain ⟨rfl, hsz, ⟨hP, hK, hD⟩, hST⟩ := hv
  subst hsz
  have hts := atoms_spec (ws := lw_ws y cc nL (some .long)) B.pre
  have hn := name_of_methodNamed B.named B.method
  have C : VC p s m av.toArray meth c G (va_A pre.flatten s.heap.size) nL cc y.cls := ⟨B.exec, B.bytes, hml, findClass_of_methodNamed B.named, fun w hw => hts w (List.mem_cons_of_mem _ hw), hK, fun q h => Or.inr h, hST, B.notSynchronized⟩
  have hl := lv_entry av hav
  rw [lg_entry_eq]
  exact body p e s m av.toArray below meth c _ _ C B.returns hn.1 rfl s.heap [] _ hP hD.self va_S.rf hl
theorem Mr_of {y : MethodName} {ret : FieldType} {fr lo mc ms : Nat} {av : List Value} {pre : List va_W} {post : Nat → List va_W → Prop} (hy : plainName y.cls = true) (hav : (lg_sl av).length ≤ nL)
    (body : ∀ (p : Program) (e : Env) (s : State) (m : MethodId) (args : Array Value) (below : List Frame) (meth : Method) (c : Code) (A : Nat → Prop) (Q : State → Prop), VC p s m args meth c G A nL cc y.cls → meth.sig.returnType = some ret → meth.name = y.name → Q = MQ below (QcR G A post) args s mc ms A →
      V p l e { frames := fr, cells := mc, slots := ms, locals := lo } s m args below meth c Q G A nL pre 0 0 0 (lv_args 0 av) []) : Mr l G y cc nL ret fr lo mc ms av pre post := by
  intro sz
  refine Met.ofW (cc := cc) (maxL := nL) (ret := some ret) hy rfl ?_
  intro p e s m args below meth c s₁ B hml hv
  obtain ⟨rfl, hsz, ⟨hP, hK, hD⟩, hST⟩ := hv
  subst hsz
  have hts := atoms_spec (ws := lw_ws y cc nL (some ret)) B.pre
  have hn := name_of_methodNamed B.named B.method
  have C : VC p s m av.toArray meth c G (va_A pre.flatten s.heap.size) nL cc y.cls := ⟨B.exec, B.bytes, hml, findClass_of_methodNamed B.named, fun w hw => hts w (List.mem_cons_of_mem _ hw), hK, fun q h => Or.inr h, hST, B.notSynchronized⟩
  have hl := lv_entry av hav
  rw [lg_entry_eq]
  exact body p e s m av.toArray below meth c _ _ C B.returns hn.1 rfl s.heap [] _ hP hD.self va_S.rf hl
theorem V_iret (C : VC p s m args meth c G A nL cc own) {mc ms : Nat} {post : Int32 → List va_W → Prop} (hQ : Q = MQ below (QcI G A post) args s mc ms A) (hr : meth.sig.returnType = some .int) {x : Int32} (is : List Nat) {u : List va_W} (hn : va_nd is = true) (hu : is.map (fun i => ps[i]?) = u.map some) (hk : k ≤ mc) (hs : n ≤ ms) (hdg : decode cc pc = .ok (.ireturn, 1)) (hp : post x u) : V p l e R s m args below meth c Q G A nL ps k n (pc) L (.int x :: []) := by
  subst hQ
  exact fun H locs ls hP hD hS hl => W.widen hk hs (W.iret C.1 C.2.1 hr (fun t ht hW => ⟨⟨x, u, rfl, hp, ⟨by rw [ht]; exact sel_P hP is hu, va_K.moved hW.alike C.K, sel_D hD is hn hu⟩⟩, hS.F ht⟩) hS.2.2 hdg C.locks)
theorem V_zret (C : VC p s m args meth c G A nL cc own) {mc ms : Nat} {post : Int32 → List va_W → Prop} (hQ : Q = MQ below (QcI G A post) args s mc ms A) (hr : meth.sig.returnType = some .boolean) {x : Int32} (hx : x = 0 ∨ x = 1) (is : List Nat) {u : List va_W} (hn : va_nd is = true) (hu : is.map (fun i => ps[i]?) = u.map some) (hk : k ≤ mc) (hs : n ≤ ms) (hdg : decode cc pc = .ok (.ireturn, 1)) (hp : post x u) : V p l e R s m args below meth c Q G A nL ps k n (pc) L (.int x :: []) := by
  subst hQ
  exact fun H locs ls hP hD hS hl => W.widen hk hs (W.zret C.1 C.2.1 hr (by rcases hx with rfl | rfl <;> rfl) (fun t ht hW => ⟨⟨x, u, rfl, hp, ⟨by rw [ht]; exact sel_P hP is hu, va_K.moved hW.alike C.K, sel_D hD is hn hu⟩⟩, hS.F ht⟩) hS.2.2 hdg C.locks)
theorem V_vret (C : VC p s m args meth c G A nL cc own) {mc ms : Nat} {post : List va_W → Prop} (hQ : Q = MQ below (QcV G A post) args s mc ms A) (hr : meth.sig.returnType = none) (is : List Nat) {u : List va_W} (hn : va_nd is = true) (hu : is.map (fun i => ps[i]?) = u.map some) (hk : k ≤ mc) (hs : n ≤ ms) (hdg : decode cc pc = .ok (.return_, 1)) (hp : post u) : V p l e R s m args below meth c Q G A nL ps k n (pc) L ([]) := by
  subst hQ
  exact fun H locs ls hP hD hS hl => W.widen hk hs (W.vret C.1 C.2.1 hr (fun t ht hW => ⟨⟨u, rfl, hp, ⟨by rw [ht]; exact sel_P hP is hu, va_K.moved hW.alike C.K, sel_D hD is hn hu⟩⟩, hS.F ht⟩) hS.2.2 hdg C.locks)
theorem V_lret (C : VC p s m args meth c G A nL cc own) {mc ms : Nat} {post : Int64 → List va_W → Prop} (hQ : Q = MQ below (QcL G A post) args s mc ms A) (hr : meth.sig.returnType = some .long) {x : Int64} (is : List Nat) {u : List va_W} (hn : va_nd is = true) (hu : is.map (fun i => ps[i]?) = u.map some) (hk : k ≤ mc) (hs : n ≤ ms) (hdg : decode cc pc = .ok (.lreturn, 1)) (hp : post x u) : V p l e R s m args below meth c Q G A nL ps k n (pc) L (.long x :: []) := by
  subst hQ
  exact fun H locs ls hP hD hS hl => W.widen hk hs (W.lret C.1 C.2.1 hr (fun t ht hW => ⟨⟨x, u, rfl, hp, ⟨by rw [ht]; exact sel_P hP is hu, va_K.moved hW.alike C.K, sel_D hD is hn hu⟩⟩, hS.F ht⟩) hS.2.2 hdg C.locks)
theorem V_aret (C : VC p s m args meth c G A nL cc own) {mc ms : Nat} {post : Nat → List va_W → Prop} (hQ : Q = MQ below (QcR G A post) args s mc ms A) {rt : FieldType} (hr : meth.sig.returnType = some rt) (hrt : (∃ n, rt = .object n) ∨ ∃ t, rt = .array t) {x : Nat} (is : List Nat) {u : List va_W} (hn : va_nd is = true) (hu : is.map (fun i => ps[i]?) = u.map some) (hk : k ≤ mc) (hs : n ≤ ms) (hdg : decode cc pc = .ok (.areturn, 1)) (hp : post x u) : V p l e R s m args below meth c Q G A nL ps k n (pc) L (.ref x :: []) := by
  subst hQ
  exact fun H locs ls hP hD hS hl => W.widen hk hs (W.aret C.1 C.2.1 hr hrt (Or.inr ⟨x, rfl⟩) (fun t ht hW => ⟨⟨(x, u), x, rfl, hp, rfl, ⟨by rw [ht]; exact sel_P hP is hu, va_K.moved hW.alike C.K, sel_D hD is hn hu⟩⟩, hS.F ht⟩) hS.2.2 hdg C.locks)
theorem V_sub (is : List Nat) {u : List va_W} (hn : va_nd is = true) (hu : is.map (fun i => ps[i]?) = u.map some) (kk : V p l e R s m args below meth c Q G A nL u k n (pc) L (st)) : V p l e R s m args below meth c Q G A nL ps k n (pc) L (st) := fun H locs ls hP hD hS hl => kk H locs ls (sel_P hP is hu) (sel_D hD is hn hu) hS hl
theorem V_flat {ps' : List va_W} (h : ps.flatten = ps'.flatten) (kk : V p l e R s m args below meth c Q G A nL ps' k n (pc) L (st)) : V p l e R s m args below meth c Q G A nL ps k n (pc) L (st) := fun H locs ls hP hD hS hl => kk H locs ls (h ▸ hP) (h ▸ hD) hS hl
theorem V_loc {L' : List (Nat × Value)} (ks : List Nat) (h : lv_pick L ks = L') (kk : V p l e R s m args below meth c Q G A nL ps k n (pc) L' (st)) : V p l e R s m args below meth c Q G A nL ps k n (pc) L (st) := fun H locs ls hP hD hS hl => kk H locs ls hP hD hS (lv_sub hl ks h)
theorem V_widen {k' n' : Nat} (hk : k ≤ k') (hn : n ≤ n') (kk : V p l e R s m args below meth c Q G A nL ps k' n' (pc) L (st)) : V p l e R s m args below meth c Q G A nL ps k n (pc) L (st) := fun H locs ls hP hD hS hl => W.widen hk hn (kk H locs ls hP hD hS hl)
theorem V_perm {ps' : List va_W} (h : ps.flatten.Perm ps'.flatten) (kk : V p l e R s m args below meth c Q G A nL ps' k n (pc) L (st)) : V p l e R s m args below meth c Q G A nL ps k n (pc) L (st) := fun H locs ls hP hD hS hl => kk H locs ls (wp_iff.mpr fun q hq => wp_iff.mp hP q (h.mem_iff.mpr hq)) (wd_iff.mpr ⟨(h.pairwise_iff (fun h => Ne.symm h)).mp (wd_iff.mp hD).1, fun q hq => (wd_iff.mp hD).2 q (h.mem_iff.mpr hq)⟩) hS hl
/-- a call that comes back: what is left of it -/
def VRun (p : Program) (l : Launch) (e : Env) (R : Room) (s : State) (m : MethodId) (args : Array Value) (below : List Frame) (meth : Method) (c : Code) (G : VG) (A : Nat → Prop) (nL : Nat) (ps : List va_W) (k n pc : Nat) (L : List (Nat × Value)) (st rest : List Value) (mc ms : Nat) (pre : List va_W) (Qa : Nat → State → Outcome → State → Prop) : Prop :=
  ∀ (H : Heap) (locs : List Loc) (ls : Array Slot), va_P G.1 vwCl ps.flatten H → va_D A ps.flatten → va_S A s.heap H locs → lv_has ls nL L → va_Run p l e R s m args below meth c H locs k n mc ms (F0 m pc ls st) rest (Qa H.size) (va_A pre.flatten H.size)
theorem w_pre {ps pre : List va_W} {H : Heap} {locs : List Loc} {is : List Nat} (C : VC p s m args meth c G A nL cc own) (hP : va_P G.1 vwCl ps.flatten H) (hD : va_D A ps.flatten) (hS : va_S A s.heap H locs) (hi : is.map (fun i => ps[i]?) = pre.map some) (hn : va_nd is = true) {U : State} (hU : U.heap = H) (hW : s.WarmedH U.vm) : wPre G pre H.size U :=
  ⟨by rw [hU], ⟨by rw [hU]; exact sel_P hP is hi, va_K.moved hW.alike C.K, (sel_D hD is hn hi).weaken (fun _ _ _ _ => trivial)⟩, C.sT.step hW (by rw [hU]; exact hS.2.1) (w_free hD hS C.hA hi)⟩
theorem V_runV (C : VC p s m args meth c G A nL cc own) {y : MethodName} {bytes : ByteArray} {maxL fr lo mc ms ix : Nat} {pre : List va_W} {Qc : Nat → Array Value → State → Outcome → State → Prop} {ret : Option FieldType} {b : Nat} (As : List Value) (hM : ∀ sz : Nat, Met l y (lw_ws y bytes maxL ret) { frames := fr, cells := mc, slots := ms, locals := lo } (va_Pc (.ref b :: As) (wPre G pre sz)) (Qc sz) mc ms (va_A pre.flatten sz)) (is : List Nat) (hi : is.map (fun i => ps[i]?) = pre.map some) (hn : va_nd is = true) (hlink : Cond.methodLink own ix y ∈ lw_all) (hinst : Cond.instanceMethod y ∈ lw_all) (hsel : Cond.selects y.cls y y ∈ lw_all) (hini : Cond.initialized y.cls ∈ lw_all) (hcode : Cond.code y bytes maxL ret ∈ lw_all)
    (hd : y.cls ≠ "java/lang/invoke/MethodHandle" ∧ y.cls ≠ "java/lang/invoke/VarHandle" ∧ (parseMethodDescriptor y.desc).map (fun d => d.parameters.length) = some As.length) (hR : fr + 1 ≤ R.frames ∧ 8 + (maxL + 11) + lo ≤ R.locals) {ci : Nat} {T : u_T} {N : Nat} (hc : vwCl[ci]? = some (y.cls, T, N)) {fs : List Value} (hj : (b, .inr (ci, fs)) ∈ ps.flatten) (hst : st = As.reverse ++ .ref b :: rest) (hcat : (rest.map fun v => v.category).sum ≤ 8) (hf : k + mc ≤ R.cells ∧ n + ms ≤ R.slots) (hdg : decode cc pc = .ok (.invokevirtual ix, 3)) : VRun p l e R s m args below meth c G A nL ps k n pc L st rest mc ms pre (fun sz => Qc sz (Value.ref b :: As).toArray) := by
  intro H locs ls hP hD hS hl
  obtain ⟨q, hq⟩ := List.getElem?_of_mem hj
  have hG : GoodIn lw_all (wsV own ix y.cls y (lw_ws y bytes maxL ret)) := goodIn_app (a := [.methodLink own ix y, .instanceMethod y, .selects y.cls y y, .initialized y.cls]) (fun w hw => by simp only [List.mem_cons, List.not_mem_nil, or_false] at hw; rcases hw with rfl | rfl | rfl | rfl <;> exact ⟨by assumption, good_of_word (lw_all_good (by assumption))⟩) (lw_goodIn hcode)
  exact va_runV C.fix (hM H.size) (cwV As.length C.2.2.2.2.1 hG rfl rfl rfl ⟨rfl, hd⟩ hR) ⟨wPre_blind, va_recv C.K hP hc hq, fun U hU hW => ⟨rfl, w_pre C hP hD hS hi hn hU hW⟩⟩ rfl rfl hl.1 hst (lv_room hcat) hdg hf
theorem V_runS (C : VC p s m args meth c G A nL cc own) {y : MethodName} {bytes : ByteArray} {maxL fr lo mc ms ix : Nat} {pre : List va_W} {Qc : Nat → Array Value → State → Outcome → State → Prop} {ret : Option FieldType} (As : List Value) (hM : ∀ sz : Nat, Met l y (lw_ws y bytes maxL ret) { frames := fr, cells := mc, slots := ms, locals := lo } (va_Pc As (wPre G pre sz)) (Qc sz) mc ms (va_A pre.flatten sz)) (is : List Nat) (hi : is.map (fun i => ps[i]?) = pre.map some) (hn : va_nd is = true) (hlink : Cond.methodLink own ix y ∈ lw_all) (hstat : Cond.static y ∈ lw_all) (hini : Cond.initialized y.cls ∈ lw_all) (hcode : Cond.code y bytes maxL ret ∈ lw_all)
    (hd : y.cls ≠ "java/lang/invoke/MethodHandle" ∧ y.cls ≠ "java/lang/invoke/VarHandle" ∧ (parseMethodDescriptor y.desc).map (fun d => d.parameters.length) = some As.length) (hR : fr + 1 ≤ R.frames ∧ 8 + (maxL + 11) + lo ≤ R.locals) (hst : st = As.reverse ++ rest) (hcat : (rest.map fun v => v.category).sum ≤ 8) (hf : k + mc ≤ R.cells ∧ n + ms ≤ R.slots) (hdg : decode cc pc = .ok (.invokestatic ix, 3)) : VRun p l e R s m args below meth c G A nL ps k n pc L st rest mc ms pre (fun sz => Qc sz As.toArray) := by
  intro H locs ls hP hD hS hl
  have hG : GoodIn lw_all (va_wsS own ix y (lw_ws y bytes maxL ret)) := goodIn_app (a := [.methodLink own ix y, .static y, .initialized y.cls]) (fun w hw => by simp only [List.mem_cons, List.not_mem_nil, or_false] at hw; rcases hw with rfl | rfl | rfl <;> exact ⟨by assumption, good_of_word (lw_all_good (by assumption))⟩) (lw_goodIn hcode)
  exact va_runS C.fix (hM H.size) (va_cwS As.length C.2.2.2.2.1 hG rfl rfl rfl hd hR) ⟨wPre_blind, fun U hU hW => ⟨rfl, w_pre C hP hD hS hi hn hU hW⟩⟩ rfl rfl hl.1 hst (lv_room hcat) hdg hf
theorem V_runI (C : VC p s m args meth c G A nL cc own) {y : MethodName} {bytes : ByteArray} {maxL fr lo mc ms ix : Nat} {pre : List va_W} {Qc : Nat → Array Value → State → Outcome → State → Prop} {b : Nat} (As : List Value) (hM : ∀ sz : Nat, Met l y (lw_ws y bytes maxL none) { frames := fr, cells := mc, slots := ms, locals := lo } (va_Pc (.ref b :: As) (wPre G pre sz)) (Qc sz) mc ms (va_A pre.flatten sz)) (is : List Nat) (hi : is.map (fun i => ps[i]?) = pre.map some) (hn : va_nd is = true) (hlink : Cond.methodLink own ix y ∈ lw_all) (hinst : Cond.instanceMethod y ∈ lw_all) (hini : Cond.initialized y.cls ∈ lw_all) (hcode : Cond.code y bytes maxL none ∈ lw_all) (hnm : y.name = "<init>")
    (hd : y.cls ≠ "java/lang/invoke/MethodHandle" ∧ y.cls ≠ "java/lang/invoke/VarHandle" ∧ (parseMethodDescriptor y.desc).map (fun d => d.parameters.length) = some As.length) (hR : fr + 1 ≤ R.frames ∧ 8 + (maxL + 11) + lo ≤ R.locals) (hst : st = As.reverse ++ .ref b :: rest) (hcat : (rest.map fun v => v.category).sum ≤ 8) (hf : k + mc ≤ R.cells ∧ n + ms ≤ R.slots) (hdg : decode cc pc = .ok (.invokespecial ix, 3)) : VRun p l e R s m args below meth c G A nL ps k n pc L st rest mc ms pre (fun sz => Qc sz (Value.ref b :: As).toArray) := by
  intro H locs ls hP hD hS hl
  exact va_runI C.fix (hM H.size) (cwI As.length C.2.2.2.2.1 (lw_goodIn hcode) rfl rfl rfl (C.wd hini) (C.wd hlink) (C.wd hinst) hnm hd hR) ⟨wPre_blind, fun U hU hW => ⟨rfl, w_pre C hP hD hS hi hn hU hW⟩⟩ rfl rfl hl.1 hst (lv_room hcat) hdg hf
theorem V_runIN (C : VC p s m args meth c G A nL cc own) {y : MethodName} {bytes : ByteArray} {maxL fr lo mc ms ix : Nat} {pre : List va_W} {Qc : Nat → Array Value → State → Outcome → State → Prop} {b : Nat} {host : String} (As : List Value) (hM : ∀ sz : Nat, Met l y (lw_ws y bytes maxL none) { frames := fr, cells := mc, slots := ms, locals := lo } (va_Pc (.ref b :: As) (wPre G pre sz)) (Qc sz) mc ms (va_A pre.flatten sz)) (is : List Nat) (hi : is.map (fun i => ps[i]?) = pre.map some) (hn : va_nd is = true) (hlink : Cond.methodLinkNest own ix y host ∈ lw_soft) (hinst : Cond.instanceMethod y ∈ lw_all) (hini : Cond.initialized y.cls ∈ lw_all) (hcode : Cond.code y bytes maxL none ∈ lw_all) (hnm : y.name = "<init>")
    (hd : y.cls ≠ "java/lang/invoke/MethodHandle" ∧ y.cls ≠ "java/lang/invoke/VarHandle" ∧ (parseMethodDescriptor y.desc).map (fun d => d.parameters.length) = some As.length) (hR : fr + 1 ≤ R.frames ∧ 8 + (maxL + 11) + lo ≤ R.locals) (hst : st = As.reverse ++ .ref b :: rest) (hcat : (rest.map fun v => v.category).sum ≤ 8) (hf : k + mc ≤ R.cells ∧ n + ms ≤ R.slots) (hdg : decode cc pc = .ok (.invokespecial ix, 3)) : VRun p l e R s m args below meth c G A nL ps k n pc L st rest mc ms pre (fun sz => Qc sz (Value.ref b :: As).toArray) := by
  intro H locs ls hP hD hS hl
  exact va_runIN C.fix (hM H.size) ⟨va_cnB As.length C.2.2.2.2.1 (lw_goodIn hcode) rfl rfl rfl (C.sT.2.2.2.2.2.2.2.1 _ hlink) (C.wd hini) hd hR, hnm, C.wd hinst⟩ ⟨wPre_blind, fun U hU hW => ⟨rfl, w_pre C hP hD hS hi hn hU hW⟩⟩ rfl rfl hl.1 hst (lv_room hcat) hdg hf
theorem V_runSN (C : VC p s m args meth c G A nL cc own) {y : MethodName} {bytes : ByteArray} {maxL fr lo mc ms ix : Nat} {pre : List va_W} {Qc : Nat → Array Value → State → Outcome → State → Prop} {ret : Option FieldType} {host : String} (As : List Value) (hM : ∀ sz : Nat, Met l y (lw_ws y bytes maxL ret) { frames := fr, cells := mc, slots := ms, locals := lo } (va_Pc As (wPre G pre sz)) (Qc sz) mc ms (va_A pre.flatten sz)) (is : List Nat) (hi : is.map (fun i => ps[i]?) = pre.map some) (hn : va_nd is = true) (hlink : Cond.methodLinkNest own ix y host ∈ lw_soft) (hstat : Cond.static y ∈ lw_all) (hini : Cond.initialized y.cls ∈ lw_all) (hcode : Cond.code y bytes maxL ret ∈ lw_all)
    (hd : y.cls ≠ "java/lang/invoke/MethodHandle" ∧ y.cls ≠ "java/lang/invoke/VarHandle" ∧ (parseMethodDescriptor y.desc).map (fun d => d.parameters.length) = some As.length) (hR : fr + 1 ≤ R.frames ∧ 8 + (maxL + 11) + lo ≤ R.locals) (hst : st = As.reverse ++ rest) (hcat : (rest.map fun v => v.category).sum ≤ 8) (hf : k + mc ≤ R.cells ∧ n + ms ≤ R.slots) (hdg : decode cc pc = .ok (.invokestatic ix, 3)) : VRun p l e R s m args below meth c G A nL ps k n pc L st rest mc ms pre (fun sz => Qc sz As.toArray) := by
  intro H locs ls hP hD hS hl
  exact va_runSN C.fix (hM H.size) ⟨va_cnB As.length C.2.2.2.2.1 (lw_goodIn hcode) rfl rfl rfl (C.sT.2.2.2.2.2.2.2.1 _ hlink) (C.wd hini) hd hR, C.wd hstat, trivial⟩ ⟨wPre_blind, fun U hU hW => ⟨rfl, w_pre C hP hD hS hi hn hU hW⟩⟩ rfl rfl hl.1 hst (lv_room hcat) hdg hf
theorem V_calli (C : VC p s m args meth c G A nL cc own) {pre : List va_W} {mc ms : Nat} {a : Array Value} {post : Int32 → List va_W → Prop} (hr : VRun p l e R s m args below meth c G A nL ps k n pc L st rest mc ms pre (fun sz => QcI G (va_A pre.flatten sz) post a)) {is : List Nat} (hi : is.map (fun i => ps[i]?) = pre.map some) (js : List Nat) {rs : List va_W} (hj : js.map (fun i => ps[i]?) = rs.map some) (hnj : va_nd js = true) (hx : ∀ j ∈ js, j ∉ is) (kk : ∀ (r : Int32) (u : List va_W), post r u → V p l e R s m args below meth c Q G A nL (u ++ rs) (k + mc) (n + ms) (pc + 3) L (.int r :: rest)) : V p l e R s m args below meth c Q G A nL ps k n (pc) L (st) := fun H locs ls hP hD hS hl => by
  have hF := w_free hD hS C.hA hi
  exact va_calli (hr H locs ls hP hD hS hl) hS (fun q _ h => hF q h) hF (fun r u t H1 locs1 ht hvm hp hB hz hk1 hS1 => by
    obtain ⟨hP1, hK1, hD1⟩ := hB
    rw [ht] at hP1
    obtain ⟨hP2, hD2⟩ := w_join hP hD hi hj hnj hx hk1 hF hP1 hD1
    exact kk r u hp H1 locs1 ls hP2 hD2 hS1 hl)
theorem V_calll (C : VC p s m args meth c G A nL cc own) {pre : List va_W} {mc ms : Nat} {a : Array Value} {post : Int64 → List va_W → Prop} (hr : VRun p l e R s m args below meth c G A nL ps k n pc L st rest mc ms pre (fun sz => QcL G (va_A pre.flatten sz) post a)) {is : List Nat} (hi : is.map (fun i => ps[i]?) = pre.map some) (js : List Nat) {rs : List va_W} (hj : js.map (fun i => ps[i]?) = rs.map some) (hnj : va_nd js = true) (hx : ∀ j ∈ js, j ∉ is) (kk : ∀ (r : Int64) (u : List va_W), post r u → V p l e R s m args below meth c Q G A nL (u ++ rs) (k + mc) (n + ms) (pc + 3) L (.long r :: rest)) : V p l e R s m args below meth c Q G A nL ps k n (pc) L (st) := fun H locs ls hP hD hS hl => by
  have hF := w_free hD hS C.hA hi
  exact va_calll (hr H locs ls hP hD hS hl) hS (fun q _ h => hF q h) hF (fun r u t H1 locs1 ht hvm hp hB hz hk1 hS1 => by
    obtain ⟨hP1, hK1, hD1⟩ := hB
    rw [ht] at hP1
    obtain ⟨hP2, hD2⟩ := w_join hP hD hi hj hnj hx hk1 hF hP1 hD1
    exact kk r u hp H1 locs1 ls hP2 hD2 hS1 hl)
theorem V_callv (C : VC p s m args meth c G A nL cc own) {pre : List va_W} {mc ms : Nat} {a : Array Value} {post : List va_W → Prop} (hr : VRun p l e R s m args below meth c G A nL ps k n pc L st rest mc ms pre (fun sz => QcV G (va_A pre.flatten sz) post a)) {is : List Nat} (hi : is.map (fun i => ps[i]?) = pre.map some) (js : List Nat) {rs : List va_W} (hj : js.map (fun i => ps[i]?) = rs.map some) (hnj : va_nd js = true) (hx : ∀ j ∈ js, j ∉ is) (kk : ∀ (u : List va_W), post u → V p l e R s m args below meth c Q G A nL (u ++ rs) (k + mc) (n + ms) (pc + 3) L (rest)) : V p l e R s m args below meth c Q G A nL ps k n (pc) L (st) := fun H locs ls hP hD hS hl => by
  have hF := w_free hD hS C.hA hi
  exact va_callv (hr H locs ls hP hD hS hl) hS (fun q _ h => hF q h) hF (fun u t H1 locs1 ht hvm hp hB hz hk1 hS1 => by
    obtain ⟨hP1, hK1, hD1⟩ := hB
    rw [ht] at hP1
    obtain ⟨hP2, hD2⟩ := w_join hP hD hi hj hnj hx hk1 hF hP1 hD1
    exact kk u hp H1 locs1 ls hP2 hD2 hS1 hl)
theorem V_callr (C : VC p s m args meth c G A nL cc own) {pre : List va_W} {mc ms : Nat} {a : Array Value} {post : Nat → List va_W → Prop} (hr : VRun p l e R s m args below meth c G A nL ps k n pc L st rest mc ms pre (fun sz => QcR G (va_A pre.flatten sz) post a)) {is : List Nat} (hi : is.map (fun i => ps[i]?) = pre.map some) (js : List Nat) {rs : List va_W} (hj : js.map (fun i => ps[i]?) = rs.map some) (hnj : va_nd js = true) (hx : ∀ j ∈ js, j ∉ is) (kk : ∀ (r : Nat) (u : List va_W), post r u → V p l e R s m args below meth c Q G A nL (u ++ rs) (k + mc) (n + ms) (pc + 3) L (.ref r :: rest)) : V p l e R s m args below meth c Q G A nL ps k n (pc) L (st) := fun H locs ls hP hD hS hl => by
  have hF := w_free hD hS C.hA hi
  exact va_callr (hr H locs ls hP hD hS hl) hS (fun q _ h => hF q h) hF (fun u ra t H1 locs1 ht hvm hp hB hz hk1 hS1 => by
    obtain ⟨rfl, hP1, hK1, hD1⟩ := hB
    rw [ht] at hP1
    obtain ⟨hP2, hD2⟩ := w_join hP hD hi hj hnj hx hk1 hF hP1 hD1
    exact kk u.1 u.2 hp H1 locs1 ls hP2 hD2 hS1 hl)
theorem V_objInit (C : VC p s m args meth c G A nL cc own) {ix a : Nat} (hlink : Cond.methodLink own ix Lib.objectInit ∈ lw_all) (hinst : Cond.instanceMethod Lib.objectInit ∈ lw_all) (hcode : Cond.code Lib.objectInit ⟨#[0xb1]⟩ 1 none ∈ lw_all) (hdg : decode cc pc = .ok (.invokespecial ix, 3)) (hf : 1 ≤ R.frames) (hlo : (st.map fun v => v.category).sum + 12 ≤ R.locals) (kk : V p l e R s m args below meth c Q G A nL ps k n (pc + 3) L (st)) : V p l e R s m args below meth c Q G A nL ps k n (pc) L (.ref a :: st) := fun H locs ls hP hD hS hl =>
  W.objInit C.1 C.2.1 C.2.2.2.1 (C.wd hlink) (C.wd hinst) (C.wd hcode) rfl (by rw [C.2.2.1]; exact hl.1) rfl hdg hf (by show 2 * 0 + _ + 12 ≤ _; omega) (kk H locs ls hP hD hS hl)
theorem V_new (C : VC p s m args meth c G A nL cc own) {Cn : String} {T : u_T} {N ci ix : Nat} (hin : ∀ w ∈ u_ws Cn T N, w ∈ lw_all) (ty : Nat → FieldType) (hty : ∀ k, k < N → parseFieldDescriptor (T k).2.2.1 = some (ty k)) (hc : vwCl[ci]? = some (Cn, T, N)) (hw1 : Cond.classLink own ix Cn ∈ lw_all) (hw2 : Cond.instantiable Cn N ∈ lw_all) (hw3 : Cond.initialized Cn ∈ lw_all) {fs : List Value} (hfs : ∀ j, j < N → defaultValue (ty j) = vp_V fs j) (hk : k + 1 ≤ R.cells) (hs : n + N ≤ R.slots) (hdg : decode cc pc = .ok (.new ix, 3)) (kk : ∀ q : Nat, V p l e R s m args below meth c Q G A nL (ps ++ [[(q, .inr (ci, fs))]]) (k + 1) (n + N) (pc + 3) L (.ref q :: st)) : V p l e R s m args below meth c Q G A nL ps k n (pc) L (st) := fun H locs ls hP hD hS hl =>
  va_new C.1 C.2.1 C.2.2.2.2.1 hin ty hty C.2.2.2.1 (C.wd hw1) (C.wd hw2) (C.wd hw3) C.K hP hD hS C.hA hc hfs hk hs hdg (fun q H1 hP1 hD1 hS1 => kk q H1 locs ls (by rw [List.flatten_append]; exact hP1) (by rw [List.flatten_append]; exact hD1) hS1 hl)
theorem V_newa_i (C : VC p s m args meth c G A nL cc own) (hw : Cond.arrayClass .int ∈ lw_all) {i : Int32} {N : Nat} (hn : ¬ i < 0) (hN : i.toNatClampNeg = N) (hb : N * componentBytes .int ≤ 536870912) (hk : k + 1 ≤ R.cells) (hs : n + N ≤ R.slots) (hdg : decode cc pc = .ok (.newarray .int, 2)) (kk : ∀ q : Nat, V p l e R s m args below meth c Q G A nL (ps ++ [[(q, .inl (G.2.1 0, N, .inl (fun _ => 0)))]]) (k + 1) (n + N) (pc + 2) L (.ref q :: st)) : V p l e R s m args below meth c Q G A nL ps k n (pc) L (.int i :: st) := fun H locs ls hP hD hS hl =>
  va_newa (atype := .int) C.1 C.2.1 (C.wd hw) (ty := .int) rfl C.K hP hD hS C.hA (a0 := (N, .inl (fun _ => 0))) (fun cA => rfl) hn hN hb hk hs hdg (fun q cA H1 hK1 hP1 hD1 hS1 => by
    have e1 := (hK1.2 0 _ rfl).2
    have e2 := (hK1.2 10 (cA, .int) rfl).2
    have e : cA = G.2.1 0 := by
      have h := Eq.trans (Eq.symm e2) e1
      exact Option.some.inj h
    subst e
    exact kk q H1 locs ls (by rw [List.flatten_append]; exact hP1) (by rw [List.flatten_append]; exact hD1) hS1 hl)
theorem V_newq (C : VC p s m args meth c G A nL cc own) {Cn : String} {ix : Nat} (j : Nat) {cq : ClassId} (hj : (tysA G.2.1)[j]? = some (cq, .object Cn)) (hw : Cond.classLink own ix Cn ∈ lw_all) (hao : Cn ∈ lw_aoC) {i : Int32} {N : Nat} (hn : ¬ i < 0) (hN : i.toNatClampNeg = N) (hb : N * 4 ≤ 536870912) (hk : k + 1 ≤ R.cells) (hs : n + N ≤ R.slots) (hdg : decode cc pc = .ok (.anewarray ix, 3)) (kk : ∀ q : Nat, V p l e R s m args below meth c Q G A nL (ps ++ [[(q, .inl (cq, N, .inr (.inr (.inr (.inr (fun _ => none))))))]]) (k + 1) (n + N) (pc + 3) L (.ref q :: st)) : V p l e R s m args below meth c Q G A nL ps k n (pc) L (.int i :: st) := fun H locs ls hP hD hS hl =>
  va_newq C.1 C.2.1 C.2.2.2.1 (C.wd hw) (C.sT.2.2.2.2.2.2.2.2.2.1 _ hao) C.K hP hD hS C.hA hn hN hb hk hs hdg (fun q cA H1 hK1 hP1 hD1 hS1 => by
    have hj1 : (tysA G.2.1 ++ [(cA, FieldType.object Cn)])[j]? = some (cq, .object Cn) := by
      rw [List.getElem?_append_left (List.getElem?_eq_some_iff.mp hj).1]; exact hj
    obtain ⟨kA, co, g1, g2, g3, e1⟩ := (hK1.2 j _ hj1).2
    obtain ⟨kB, co', g4, g5, g6, e2⟩ := (hK1.2 10 (cA, .object Cn) rfl).2
    have e : cA = cq := Option.some.inj (e2.symm.trans e1)
    subst e
    exact kk q H1 locs ls (by rw [List.flatten_append]; exact hP1) (by rw [List.flatten_append]; exact hD1) hS1 hl)
theorem V_aast (C : VC p s m args meth c G A nL cc own) {r : vw_C} {cA : ClassId} (hdg : decode cc pc = .ok (.aastore, 1)) (j t t2 ci : Nat) (ht : (tysA G.2.1)[t]? = some (cA, .object r.1)) (hc : vwCl[ci]? = some r) {a N v : Nat} {vs : List Value} {f : Nat → Option Nat} {r0 : va_W} (he : ps[j]? = some r0) (he2 : r0[t2]? = some (a, .inl (cA, N, .inr (.inr (.inr (.inr f)))))) (hv : (v, .inr (ci, vs)) ∈ ps.flatten) {i : Int32} (hi : vp_in i N) {z : Nat} (hx : i.toNatClampNeg = z) {ps' : List va_W} (hps : ps.set j (r0.set t2 (a, .inl (cA, N, .inr (.inr (.inr (.inr (va_up f z (some v)))))))) = ps') (kk : V p l e R s m args below meth c Q G A nL ps' k n (pc + 1) L (st)) : V p l e R s m args below meth c Q G A nL ps k n (pc) L (.ref v :: .int i :: .ref a :: st) := fun H locs ls hP hD hS hl => by
  subst hx
  obtain ⟨q, hq, hq2⟩ := cell_in he he2
  obtain ⟨qv, hqv⟩ := List.getElem?_of_mem hv
  refine va_astq C.1 C.2.1 C.K hP hD hS q t qv ci hq ht hqv hc hi hdg (fun H1 locs1 hP1 hD1 hS1 => ?_)
  rw [hq2, hps] at hP1 hD1
  exact kk H1 locs1 ls hP1 hD1 hS1 hl
theorem V_mmax (C : VC p s m args meth c G A nL cc own) {ix : Nat} (hw1 : Cond.methodLink own ix Lib.Math.max.name ∈ lw_all) (hw2 : Cond.static Lib.Math.max.name ∈ lw_all) (hw3 : Cond.initialized "java/lang/Math" ∈ lw_all) (hw4 : Cond.code Lib.Math.max.name Lib.Math.max.code 2 (some .int) ∈ lw_all) (hf : 1 ≤ R.frames) (hlo : (st.map fun v => v.category).sum + 13 ≤ R.locals) (hk : k ≤ R.cells) (hs : n ≤ R.slots) {x y : Int32} (hdg : decode cc pc = .ok (.invokestatic ix, 3)) (kk : V p l e R s m args below meth c Q G A nL ps k n (pc + 3) L (.int (if x < y then y else x) :: st)) : V p l e R s m args below meth c Q G A nL ps k n (pc) L (.int y :: .int x :: st) := fun H locs ls hP hD hS hl =>
  va_mmax C.1 C.2.1 (by rw [C.2.2.1]; exact hl.1.symm) C.2.2.2.1 (C.wd hw1) (C.wd hw2) (C.wd hw3) (C.wd hw4) hf hlo hk hs hdg (kk H locs ls hP hD hS hl)
theorem V_mmin (C : VC p s m args meth c G A nL cc own) {ix : Nat} (hw1 : Cond.methodLink own ix Lib.Math.min.name ∈ lw_all) (hw2 : Cond.static Lib.Math.min.name ∈ lw_all) (hw3 : Cond.initialized "java/lang/Math" ∈ lw_all) (hw4 : Cond.code Lib.Math.min.name Lib.Math.min.code 2 (some .int) ∈ lw_all) (hf : 1 ≤ R.frames) (hlo : (st.map fun v => v.category).sum + 13 ≤ R.locals) (hk : k ≤ R.cells) (hs : n ≤ R.slots) {x y : Int32} (hdg : decode cc pc = .ok (.invokestatic ix, 3)) (kk : V p l e R s m args below meth c Q G A nL ps k n (pc + 3) L (.int (if y < x then y else x) :: st)) : V p l e R s m args below meth c Q G A nL ps k n (pc) L (.int y :: .int x :: st) := fun H locs ls hP hD hS hl =>
  va_mmin C.1 C.2.1 (by rw [C.2.2.1]; exact hl.1.symm) C.2.2.2.1 (C.wd hw1) (C.wd hw2) (C.wd hw3) (C.wd hw4) hf hlo hk hs hdg (kk H locs ls hP hD hS hl)
end VE
