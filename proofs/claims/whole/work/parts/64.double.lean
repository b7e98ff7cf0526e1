/-! ===== doubles ===== -/
def Md (l : Launch) (G : VG) (y : MethodName) (cc : ByteArray) (nL : Nat) (fr lo mc ms : Nat) (av : List Value) (pre : List va_W) (post : UInt64 → List va_W → Prop) : Prop :=
  ∀ sz : Nat, Met l y (lw_ws y cc nL (some .double)) { frames := fr, cells := mc, slots := ms, locals := lo } (va_Pc av (wPre G pre sz)) (va_Qd post (fun u t => wB G (va_A pre.flatten sz) u t) (va_A pre.flatten sz)) mc ms (va_A pre.flatten sz)
abbrev QcD (G : VG) (A : Nat → Prop) (post : UInt64 → List va_W → Prop) := va_Qd post (Bu G A) A
section VD9
variable {p : Program} {l : Launch} {e : Env} {R : Room} {s : State} {m : MethodId} {args : Array Value} {below : List Frame} {meth : Method} {c : Code} {Q : State → Prop} {G : VG} {A : Nat → Prop} {nL : Nat} {cc : ByteArray} {own : String} {ps : List va_W} {k n pc : Nat} {L : List (Nat × Value)} {st : List Value}
theorem V_dconst (C : VC p s m args meth c G A nL cc own) (hdg : decode cc pc = .ok (.dconst 0, 1)) (kk : V p l e R s m args below meth c Q G A nL ps k n (pc + 1) L (.double 0 :: st)) : V p l e R s m args below meth c Q G A nL ps k n pc L (st) := fun H locs ls hP hD hS hl => lv_dconst0 C.1 C.2.1 hdg (kk H locs ls hP hD hS hl)
theorem V_i2d (C : VC p s m args meth c G A nL cc own) {x : Int32} (hdg : decode cc pc = .ok (.i2d, 1)) (kk : V p l e R s m args below meth c Q G A nL ps k n (pc + 1) L (.double (FP.i2d x) :: st)) : V p l e R s m args below meth c Q G A nL ps k n pc L (.int x :: st) := fun H locs ls hP hD hS hl => lv_i2d C.1 C.2.1 hdg (kk H locs ls hP hD hS hl)
theorem V_ddiv (C : VC p s m args meth c G A nL cc own) {x y : UInt64} (hdg : decode cc pc = .ok (.ddiv, 1)) (hne : vf_n64 (FP.ddiv x y)) (kk : V p l e R s m args below meth c Q G A nL ps k n (pc + 1) L (.double (FP.ddiv x y) :: st)) : V p l e R s m args below meth c Q G A nL ps k n pc L (.double y :: .double x :: st) := fun H locs ls hP hD hS hl => lv_ddiv C.1 C.2.1 hdg hne (kk H locs ls hP hD hS hl)
theorem V_dcmp (C : VC p s m args meth c G A nL cc own) {x y : UInt64} {op : CmpOp} (hdg : decode cc pc = .ok (.dcmp op, 1)) (kk : V p l e R s m args below meth c Q G A nL ps k n (pc + 1) L (.int (Op.cmpValue (FP.dcmp x y) op) :: st)) : V p l e R s m args below meth c Q G A nL ps k n pc L (.double y :: .double x :: st) := fun H locs ls hP hD hS hl => lv_dcmp C.1 C.2.1 hdg (kk H locs ls hP hD hS hl)
end VD9
section VD8
variable {p : Program} {l : Launch} {e : Env} {R : Room} {s : State} {m : MethodId} {args : Array Value} {below : List Frame} {meth : Method} {c : Code} {Q : State → Prop} {G : VG} {A : Nat → Prop} {nL : Nat} {cc : ByteArray} {own : String} {ps : List va_W} {k n pc : Nat} {L : List (Nat × Value)} {st rest : List Value}
theorem Md_of {y : MethodName} {fr lo mc ms : Nat} {av : List Value} {pre : List va_W} {post : UInt64 → List va_W → Prop} (hy : plainName y.cls = true) (hav : (lg_sl av).length ≤ nL)
    (body : ∀ (p : Program) (e : Env) (s : State) (m : MethodId) (args : Array Value) (below : List Frame) (meth : Method) (c : Code) (A : Nat → Prop) (Q : State → Prop), VC p s m args meth c G A nL cc y.cls → meth.sig.returnType = some .double → meth.name = y.name → Q = MQ below (QcD G A post) args s mc ms A →
      V p l e { frames := fr, cells := mc, slots := ms, locals := lo } s m args below meth c Q G A nL pre 0 0 0 (lv_args 0 av) []) : Md l G y cc nL fr lo mc ms av pre post := by
  intro sz
  refine Met.ofW (cc := cc) (maxL := nL) (ret := some .double) hy rfl ?_
  intro p e s m args below meth c s₁ B hml hv
  obtain ⟨rfl, hsz, ⟨hP, hK, hD⟩, hST⟩ := hv
  subst hsz
  have hts := atoms_spec (ws := lw_ws y cc nL (some .double)) B.pre
  have hn := name_of_methodNamed B.named B.method
  have C : VC p s m av.toArray meth c G (va_A pre.flatten s.heap.size) nL cc y.cls := ⟨B.exec, B.bytes, hml, findClass_of_methodNamed B.named, fun w hw => hts w (List.mem_cons_of_mem _ hw), hK, fun q h => Or.inr h, hST, B.notSynchronized⟩
  have hl := lv_entry av hav
  rw [lg_entry_eq]
  exact body p e s m av.toArray below meth c _ _ C B.returns hn.1 rfl s.heap [] _ hP hD.self va_S.rf hl
theorem V_dret (C : VC p s m args meth c G A nL cc own) {mc ms : Nat} {post : UInt64 → List va_W → Prop} (hQ : Q = MQ below (QcD G A post) args s mc ms A) (hr : meth.sig.returnType = some .double) {x : UInt64} (is : List Nat) {u : List va_W} (hn : va_nd is = true) (hu : is.map (fun i => ps[i]?) = u.map some) (hk : k ≤ mc) (hs : n ≤ ms) (hdg : decode cc pc = .ok (.dreturn, 1)) (hp : post x u) : V p l e R s m args below meth c Q G A nL ps k n (pc) L (.double x :: []) := by
  subst hQ
  exact fun H locs ls hP hD hS hl => W.widen hk hs (W.dret C.1 C.2.1 hr (fun t ht hW => ⟨⟨x, u, rfl, hp, ⟨by rw [ht]; exact sel_P hP is hu, va_K.moved hW.alike C.K, sel_D hD is hn hu⟩⟩, hS.F ht⟩) hS.2.2 hdg C.locks)
theorem V_calld (C : VC p s m args meth c G A nL cc own) {pre : List va_W} {mc ms : Nat} {a : Array Value} {post : UInt64 → List va_W → Prop} (hr : VRun p l e R s m args below meth c G A nL ps k n pc L st rest mc ms pre (fun sz => QcD G (va_A pre.flatten sz) post a)) {is : List Nat} (hi : is.map (fun i => ps[i]?) = pre.map some) (js : List Nat) {rs : List va_W} (hj : js.map (fun i => ps[i]?) = rs.map some) (hnj : va_nd js = true) (hx : ∀ j ∈ js, j ∉ is) (kk : ∀ (r : UInt64) (u : List va_W), post r u → V p l e R s m args below meth c Q G A nL (u ++ rs) (k + mc) (n + ms) (pc + 3) L (.double r :: rest)) : V p l e R s m args below meth c Q G A nL ps k n (pc) L (st) := fun H locs ls hP hD hS hl => by
  have hF := w_free hD hS C.hA hi
  exact va_calld (hr H locs ls hP hD hS hl) hS (fun q _ h => hF q h) hF (fun r u t H1 locs1 ht hvm hp hB hz hk1 hS1 => by
    obtain ⟨hP1, hK1, hD1⟩ := hB
    rw [ht] at hP1
    obtain ⟨hP2, hD2⟩ := w_join hP hD hi hj hnj hx hk1 hF hP1 hD1
    exact kk r u hp H1 locs1 ls hP2 hD2 hS1 hl)
end VD8
