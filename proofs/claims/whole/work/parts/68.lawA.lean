/-! ===== the law: catching, helpers, the script ===== -/
section VH
variable {p : Program} {l : Launch} {e : Env} {R : Room} {s : State} {m : MethodId} {args : Array Value} {below : List Frame} {meth : Method} {c : Code} {Q : State → Prop} {G : VG} {A : Nat → Prop} {nL : Nat} {cc : ByteArray} {own : String} {ps : List va_W} {k n pc : Nat} {L : List (Nat × Value)} {st rest : List Value}
def lw_ncs : List (String × String) := [("java/lang/IllegalArgumentException", "java/lang/IndexOutOfBoundsException"), ("java/lang/IllegalStateException", "java/lang/IllegalArgumentException"), ("java/lang/IllegalStateException", "java/lang/IndexOutOfBoundsException")]
def NCs (U : State) : Prop := ∀ q ∈ lw_ncs, va_Nc q.1 q.2 U
theorem NCs.moved {u U : State} (hvm : u.vm.Alike U.vm) (h : NCs u) : NCs U := fun q hq => va_Nc.moved hvm (h q hq)
/-- the handler that takes E at pc -/
def HOK (args : Array Value) (s : State) (own : String) (T : List ExceptionTableEntry) (pc : Nat) (E : String) (h : Nat) : Prop :=
  ∃ (pre : List ExceptionTableEntry) (x : ExceptionTableEntry) (suf : List ExceptionTableEntry) (name : String), T = pre ++ x :: suf ∧ (∀ z ∈ pre, covers z pc = false ∨ (z.catchType ≠ 0 ∧ ∃ nm : String, (Cond.classLink own z.catchType nm).before args s = true ∧ va_Nc E nm s)) ∧ covers x pc = true ∧ x.catchType ≠ 0 ∧ (Cond.classLink own x.catchType name).before args s = true ∧ (Cond.castable E name).before args s = true ∧ x.handlerPc = h
theorem HOK_of (C : VC p s m args meth c G A nL cc own) (hN : NCs s) {hh : List (Nat × Nat × Nat × Nat)} (hT : c.exceptionTable.toList = tableOf hh) (pre suf : List (Nat × Nat × Nat × Nat)) (x : Nat × Nat × Nat × Nat) (hs : hh = pre ++ x :: suf) {E name : String} {h : Nat} (hp : ∀ z ∈ pre, z.2.2.2 ≠ 0 ∧ ∃ nm : String, Cond.classLink own z.2.2.2 nm ∈ lw_all ∧ (E, nm) ∈ lw_ncs) (hc : covers ⟨x.1, x.2.1, x.2.2.1, x.2.2.2⟩ pc = true) (h0 : x.2.2.2 ≠ 0) (hl : Cond.classLink own x.2.2.2 name ∈ lw_all) (hcast : Cond.castable E name ∈ lw_soft) (hh2 : x.2.2.1 = h) : HOK args s own c.exceptionTable.toList pc E h :=
  ⟨tableOf pre, ⟨x.1, x.2.1, x.2.2.1, x.2.2.2⟩, tableOf suf, name, by rw [hT, hs]; unfold tableOf; rw [List.map_append]; rfl, fun z hz => by
    obtain ⟨z0, hz0, rfl⟩ := List.mem_map.mp hz
    obtain ⟨h1, nm, h2, h3⟩ := hp z0 hz0
    exact Or.inr ⟨h1, nm, C.wd h2, hN _ h3⟩, hc, h0, C.wd hl, va_Nw.use rfl (C.sT.2.2.2.2.2.2.2.1 _ hcast), hh2⟩
theorem soft_cA : Cond.castable "java/lang/IllegalArgumentException" "java/lang/IllegalArgumentException" ∈ lw_soft := by
  unfold lw_soft
  exact List.mem_filter.mpr ⟨by decide +kernel, rfl⟩
theorem soft_cX : Cond.castable "java/lang/IndexOutOfBoundsException" "java/lang/IndexOutOfBoundsException" ∈ lw_soft := by
  unfold lw_soft
  exact List.mem_filter.mpr ⟨by decide +kernel, rfl⟩
theorem soft_cT : Cond.castable "java/lang/IllegalStateException" "java/lang/IllegalStateException" ∈ lw_soft := by
  unfold lw_soft
  exact List.mem_filter.mpr ⟨by decide +kernel, rfl⟩
/-- a call of a method that may throw, what it throws is caught here -/
theorem V_xcallV (C : VC p s m args meth c G A nL cc own) {y : MethodName} {bytes : ByteArray} {maxL fr lo mc ms ix : Nat} {pre : List va_W} {ret : FieldType} {post : Int32 → List va_W → Prop} {xc : String → Prop} {b : Nat} (As : List Value) (hM : Xi l G y bytes maxL ret fr lo mc ms (.ref b :: As) pre post xc) (hdg : decode cc pc = .ok (.invokevirtual ix, 3)) (hlink : Cond.methodLink own ix y ∈ lw_all) (hinst : Cond.instanceMethod y ∈ lw_all) (hsel : Cond.selects y.cls y y ∈ lw_all) (hini : Cond.initialized y.cls ∈ lw_all) (hcode : Cond.code y bytes maxL (some ret) ∈ lw_all)
    (hd : y.cls ≠ "java/lang/invoke/MethodHandle" ∧ y.cls ≠ "java/lang/invoke/VarHandle" ∧ (parseMethodDescriptor y.desc).map (fun d => d.parameters.length) = some As.length) (hR : fr + 1 ≤ R.frames ∧ 8 + (maxL + 11) + lo ≤ R.locals) {ci : Nat} {T : u_T} {N : Nat} (hc : vwCl[ci]? = some (y.cls, T, N)) {fs : List Value} (hj : (b, .inr (ci, fs)) ∈ ps.flatten) (hst : st = As.reverse ++ .ref b :: rest) (hcat : (rest.map fun v => v.category).sum ≤ 8) (hf : k + mc ≤ R.cells ∧ n + ms ≤ R.slots)
    {is : List Nat} (hi : is.map (fun i => ps[i]?) = pre.map some) (hn : va_nd is = true) (js : List Nat) {rs : List va_W} (hj2 : js.map (fun i => ps[i]?) = rs.map some) (hnj : va_nd js = true) (hx : ∀ j ∈ js, j ∉ is)
    (kx : ∀ E, xc E → ∃ h : Nat, HOK args s own c.exceptionTable.toList pc E h ∧ ∀ q : Nat, V p l e R s m args below meth c Q G A nL (pre ++ rs) (k + mc) (n + ms) h L [.ref q])
    (kk : ∀ (r : Int32) (u : List va_W), post r u → V p l e R s m args below meth c Q G A nL (u ++ rs) (k + mc) (n + ms) (pc + 3) L (.int r :: rest)) : V p l e R s m args below meth c Q G A nL ps k n pc L st := by
  intro H locs ls hP hD hS hl
  obtain ⟨q, hq⟩ := List.getElem?_of_mem hj
  have hG : GoodIn lw_all (wsV own ix y.cls y (lw_ws y bytes maxL (some ret))) := goodIn_app (a := [.methodLink own ix y, .instanceMethod y, .selects y.cls y y, .initialized y.cls]) (fun w hw => by simp only [List.mem_cons, List.not_mem_nil, or_false] at hw; rcases hw with rfl | rfl | rfl | rfl <;> exact ⟨by assumption, good_of_word (lw_all_good (by assumption))⟩) (lw_goodIn hcode)
  have hF := w_free hD hS C.hA hi
  have hrun := vx_runV (e := e) (below := below) (meth := meth) (g := F0 m pc ls st) (rest := rest) (cells := k) (slots := n) (locs := locs) C.fix (hM H.size) (cwV As.length C.2.2.2.2.1 hG rfl rfl rfl ⟨rfl, hd⟩ hR) ⟨wPre_blind, va_recv C.K hP hc hq, fun U hU hW => ⟨rfl, w_pre C hP hD hS hi hn hU hW⟩⟩ rfl rfl hl.1 hst (lv_room hcat) hdg hf
  refine vx_calli hrun hS (fun q _ h => hF q h) hF (fun q _ h => hF q h) (fun E ce q9 u t H1 locs1 ht hvm hp hB hz hk1 hS1 hce hcv hcl => ?_) (fun r u t H1 locs1 ht hvm hp hB hz hk1 hS1 => ?_)
  · obtain ⟨rfl, hP1, hK1, hD1⟩ := hB
    rw [ht] at hP1
    obtain ⟨hP2, hD2⟩ := w_join hP hD hi hj2 hnj hx hk1 hF hP1 hD1
    obtain ⟨h, ⟨pre9, x9, suf9, nm9, e1, e2, e3, e4, e5, e6, e7⟩, kv⟩ := kx E hp
    refine vx_catch C.2.2.2.1 pre9 x9 suf9 e1 e2 e3 e4 e5 e6 hce hcv hcl ?_
    rw [e7]
    exact kv q9 H1 locs1 ls hP2 hD2 hS1 hl
  · obtain ⟨hP1, hK1, hD1⟩ := hB
    rw [ht] at hP1
    obtain ⟨hP2, hD2⟩ := w_join hP hD hi hj2 hnj hx hk1 hF hP1 hD1
    exact kk r u hp H1 locs1 ls hP2 hD2 hS1 hl
theorem V_swap {u rs : List va_W} (kk : V p l e R s m args below meth c Q G A nL (rs ++ u) k n pc L st) : V p l e R s m args below meth c Q G A nL (u ++ rs) k n pc L st := V_perm (by rw [List.flatten_append, List.flatten_append]; exact List.perm_append_comm) kk
theorem V_iretA (C : VC p s m args meth c G A nL cc own) {mc ms : Nat} {post : Int32 → List va_W → Prop} (hQ : Q = MQ below (QcI G A post) args s mc ms A) (hr : meth.sig.returnType = some .int) {x : Int32} (hk : k ≤ mc) (hs : n ≤ ms) (hdg : decode cc pc = .ok (.ireturn, 1)) (hp : post x ps) : V p l e R s m args below meth c Q G A nL ps k n pc L (.int x :: []) := by
  subst hQ
  exact fun H locs ls hP hD hS hl => W.widen hk hs (W.iret C.1 C.2.1 hr (fun t ht hW => ⟨⟨x, ps, rfl, hp, ⟨by rw [ht]; exact hP, va_K.moved hW.alike C.K, hD⟩⟩, hS.F ht⟩) hS.2.2 hdg C.locks)
/-- a helper's contract: its code has an exception table -/
abbrev lw_wsH (y : MethodName) (cc : ByteArray) (n : Nat) (hh : List (Nat × Nat × Nat × Nat)) : List Cond := Cond.codeWith y cc n (some .int) hh :: lw_all
theorem lw_goodInH {y : MethodName} {cc : ByteArray} {n : Nat} {hh : List (Nat × Nat × Nat × Nat)} (h : Cond.codeWith y cc n (some .int) hh ∈ lw_all) : GoodIn lw_all (lw_wsH y cc n hh) := fun w hw => by
  rcases List.mem_cons.mp hw with e | hw
  · rw [e]; exact ⟨h, good_of_word (lw_all_good h)⟩
  · exact ⟨hw, good_of_word (lw_all_good hw)⟩
def HiPre (G : VG) (pre : List va_W) (sz : Nat) (U : State) : Prop := wPre G pre sz U ∧ NCs U
theorem HiPre_blind {pre : List va_W} {sz : Nat} {av : List Value} : FrameBlind (va_Pc av (HiPre G pre sz)) := fun a U g mk q => by
  obtain ⟨q0, qW, qN⟩ := q
  obtain ⟨q6, q7⟩ := wPre_blind (av := av) a U g mk ⟨q0, qW⟩
  have hW : U.WarmedH (U.calling g mk a).vm := State.WarmedH.refl U
  exact ⟨q6, q7, qN.moved hW.alike⟩
def Hi (l : Launch) (G : VG) (y : MethodName) (cc : ByteArray) (nL : Nat) (hh : List (Nat × Nat × Nat × Nat)) (fr lo mc ms : Nat) (av : List Value) (pre : List va_W) (post : Int32 → List va_W → Prop) : Prop :=
  ∀ sz : Nat, Met l y (lw_wsH y cc nL hh) { frames := fr, cells := mc, slots := ms, locals := lo } (va_Pc av (HiPre G pre sz)) (va_Qi post (fun u t => wB G (va_A pre.flatten sz) u t) (va_A pre.flatten sz)) mc ms (va_A pre.flatten sz)
theorem Hi_of {y : MethodName} {hh : List (Nat × Nat × Nat × Nat)} {fr lo mc ms : Nat} {av : List Value} {pre : List va_W} {post : Int32 → List va_W → Prop} (hy : plainName y.cls = true) (hav : (lg_sl av).length ≤ nL)
    (body : ∀ (p : Program) (e : Env) (s : State) (m : MethodId) (args : Array Value) (below : List Frame) (meth : Method) (c : Code) (A : Nat → Prop) (Q : State → Prop), VC p s m args meth c G A nL cc y.cls → NCs s → c.exceptionTable.toList = tableOf hh → meth.sig.returnType = some .int → Q = MQ below (QcI G A post) args s mc ms A →
      V p l e { frames := fr, cells := mc, slots := ms, locals := lo } s m args below meth c Q G A nL pre 0 0 0 (lv_args 0 av) []) : Hi l G y cc nL hh fr lo mc ms av pre post := by
  intro sz
  refine va_MetW (cc := cc) (maxL := nL) (ret := some .int) (hh := hh) hy rfl ?_
  intro p e s m args below meth c s₁ B hml hv
  obtain ⟨rfl, ⟨hsz, ⟨hP, hK, hD⟩, hST⟩, hN⟩ := hv
  subst hsz
  have hts := atoms_spec (ws := lw_wsH y cc nL hh) B.pre
  have hT := vx_table (x := y) B (hts _ List.mem_cons_self)
  have C : VC p s m av.toArray meth c G (va_A pre.flatten s.heap.size) nL cc y.cls := ⟨B.exec, B.bytes, hml, findClass_of_methodNamed B.named, fun w hw => hts w (List.mem_cons_of_mem _ hw), hK, fun q h => Or.inr h, hST, B.notSynchronized⟩
  have hl := lv_entry av hav
  rw [lg_entry_eq]
  exact body p e s m av.toArray below meth c _ _ C hN hT B.returns rfl s.heap [] _ hP hD.self va_S.rf hl
theorem V_runH (C : VC p s m args meth c G A nL cc own) (hN : NCs s) {y : MethodName} {bytes : ByteArray} {maxL fr lo mc ms ix : Nat} {hh : List (Nat × Nat × Nat × Nat)} {pre : List va_W} {post : Int32 → List va_W → Prop} (As : List Value) (hM : Hi l G y bytes maxL hh fr lo mc ms As pre post) (is : List Nat) (hi : is.map (fun i => ps[i]?) = pre.map some) (hn : va_nd is = true) (hlink : Cond.methodLink own ix y ∈ lw_all) (hstat : Cond.static y ∈ lw_all) (hini : Cond.initialized y.cls ∈ lw_all) (hcode : Cond.codeWith y bytes maxL (some .int) hh ∈ lw_all)
    (hd : y.cls ≠ "java/lang/invoke/MethodHandle" ∧ y.cls ≠ "java/lang/invoke/VarHandle" ∧ (parseMethodDescriptor y.desc).map (fun d => d.parameters.length) = some As.length) (hR : fr + 1 ≤ R.frames ∧ 8 + (maxL + 11) + lo ≤ R.locals) (hst : st = As.reverse ++ rest) (hcat : (rest.map fun v => v.category).sum ≤ 8) (hf : k + mc ≤ R.cells ∧ n + ms ≤ R.slots) (hdg : decode cc pc = .ok (.invokestatic ix, 3)) : VRun p l e R s m args below meth c G A nL ps k n pc L st rest mc ms pre (fun sz => QcI G (va_A pre.flatten sz) post As.toArray) := by
  intro H locs ls hP hD hS hl
  have hG : GoodIn lw_all (va_wsS own ix y (lw_wsH y bytes maxL hh)) := goodIn_app (a := [.methodLink own ix y, .static y, .initialized y.cls]) (fun w hw => by simp only [List.mem_cons, List.not_mem_nil, or_false] at hw; rcases hw with rfl | rfl | rfl <;> exact ⟨by assumption, good_of_word (lw_all_good (by assumption))⟩) (lw_goodInH hcode)
  exact vx_runSW C.fix (hM H.size) (vx_cwSW As.length C.2.2.2.2.1 hG rfl rfl rfl hd hR) ⟨HiPre_blind, fun U hU hW => ⟨rfl, w_pre C hP hD hS hi hn hU hW, hN.moved hW.alike⟩⟩ rfl rfl hl.1 hst (lv_room hcat) hdg hf
/-- the script -/
theorem V_sld (C : VC p s m args meth c G A nL cc own) {b N : Nat} {xs : Nat → Int32} (hX : va_X b N xs s s.heap) (hbl : b < s.heap.size) (hbA : ¬ A b) {i : Int32} {x : Nat} (hi : vp_in i N) (hx : i.toNatClampNeg = x) (hdg : decode cc pc = .ok (.iaload, 1)) (kk : V p l e R s m args below meth c Q G A nL ps k n (pc + 1) L (.int (xs x) :: st)) : V p l e R s m args below meth c Q G A nL ps k n pc L (.int i :: .ref b :: st) := fun H locs ls hP hD hS hl => by
  subst hx
  exact va_sld C.1 C.2.1 hX hbl hbA hS hi hdg (kk H locs ls hP hD hS hl)
theorem V_slen (C : VC p s m args meth c G A nL cc own) {b N : Nat} {xs : Nat → Int32} (hX : va_X b N xs s s.heap) (hbl : b < s.heap.size) (hbA : ¬ A b) (hdg : decode cc pc = .ok (.arraylength, 1)) (kk : V p l e R s m args below meth c Q G A nL ps k n (pc + 1) L (.int (Int32.ofNat N) :: st)) : V p l e R s m args below meth c Q G A nL ps k n pc L (.ref b :: st) := fun H locs ls hP hD hS hl => va_slen C.1 C.2.1 hX hbl hbA hS hdg (kk H locs ls hP hD hS hl)
end VH
