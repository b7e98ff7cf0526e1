/-! ===== contracts that return or throw ===== -/
section VX
variable {p : Program} {l : Launch} {e : Env} {R : Room} {s : State} {m : MethodId} {args : Array Value} {below : List Frame} {meth : Method} {c : Code} {Q : State → Prop} {G : VG} {A : Nat → Prop} {nL : Nat} {cc : ByteArray} {own : String} {ps : List va_W} {k n pc : Nat} {L : List (Nat × Value)} {st rest : List Value}
abbrev XCx (G : VG) (A : Nat → Prop) (pre : List va_W) (xc : String → Prop) : String → State → State → Prop := vx_X (S := String) xc (fun E u t => E = u ∧ wB G A pre t) A
def Xi (l : Launch) (G : VG) (y : MethodName) (cc : ByteArray) (nL : Nat) (ret : FieldType) (fr lo mc ms : Nat) (av : List Value) (pre : List va_W) (post : Int32 → List va_W → Prop) (xc : String → Prop) : Prop :=
  ∀ sz : Nat, vx_Met l y (lw_ws y cc nL (some ret)) { frames := fr, cells := mc, slots := ms, locals := lo } (va_Pc av (wPre G pre sz)) (QcI G (va_A pre.flatten sz) post) (XCx G (va_A pre.flatten sz) pre xc) mc ms (va_A pre.flatten sz)
theorem Xi_of {y : MethodName} {ret : FieldType} {fr lo mc ms : Nat} {av : List Value} {pre : List va_W} {post : Int32 → List va_W → Prop} {xc : String → Prop} (hy : plainName y.cls = true) (hav : (lg_sl av).length ≤ nL)
    (body : ∀ (p : Program) (e : Env) (s : State) (m : MethodId) (args : Array Value) (below : List Frame) (meth : Method) (c : Code) (A : Nat → Prop) (Q : State → Prop), VC p s m args meth c G A nL cc y.cls → meth.sig.returnType = some ret → (∀ x ∈ c.exceptionTable.toList, False) → Q = vx_MQ below (QcI G A post) (XCx G A pre xc) args s mc ms A →
      V p l e { frames := fr, cells := mc, slots := ms, locals := lo } s m args below meth c Q G A nL pre 0 0 0 (lv_args 0 av) []) : Xi l G y cc nL ret fr lo mc ms av pre post xc := by
  intro sz
  refine vx_ofW (cc := cc) (maxL := nL) (ret := some ret) hy rfl ?_
  intro p e s m args below meth c s₁ B hml htb hv
  obtain ⟨rfl, hsz, ⟨hP, hK, hD⟩, hST⟩ := hv
  subst hsz
  have hts := atoms_spec (ws := lw_ws y cc nL (some ret)) B.pre
  have C : VC p s m av.toArray meth c G (va_A pre.flatten s.heap.size) nL cc y.cls := ⟨B.exec, B.bytes, hml, findClass_of_methodNamed B.named, fun w hw => hts w (List.mem_cons_of_mem _ hw), hK, fun q h => Or.inr h, hST, B.notSynchronized⟩
  have hl := lv_entry av hav
  rw [lg_entry_eq]
  exact body p e s m av.toArray below meth c _ _ C B.returns htb rfl s.heap [] _ hP hD.self va_S.rf hl
def Xv (l : Launch) (G : VG) (y : MethodName) (cc : ByteArray) (nL : Nat) (fr lo mc ms : Nat) (av : List Value) (pre : List va_W) (post : List va_W → Prop) (xc : String → Prop) : Prop :=
  ∀ sz : Nat, vx_Met l y (lw_ws y cc nL (none)) { frames := fr, cells := mc, slots := ms, locals := lo } (va_Pc av (wPre G pre sz)) (QcV G (va_A pre.flatten sz) post) (XCx G (va_A pre.flatten sz) pre xc) mc ms (va_A pre.flatten sz)
theorem Xv_of {y : MethodName} {fr lo mc ms : Nat} {av : List Value} {pre : List va_W} {post : List va_W → Prop} {xc : String → Prop} (hy : plainName y.cls = true) (hav : (lg_sl av).length ≤ nL)
    (body : ∀ (p : Program) (e : Env) (s : State) (m : MethodId) (args : Array Value) (below : List Frame) (meth : Method) (c : Code) (A : Nat → Prop) (Q : State → Prop), VC p s m args meth c G A nL cc y.cls → meth.sig.returnType = none → (∀ x ∈ c.exceptionTable.toList, False) → Q = vx_MQ below (QcV G A post) (XCx G A pre xc) args s mc ms A →
      V p l e { frames := fr, cells := mc, slots := ms, locals := lo } s m args below meth c Q G A nL pre 0 0 0 (lv_args 0 av) []) : Xv l G y cc nL fr lo mc ms av pre post xc := by
  intro sz
  refine vx_ofW (cc := cc) (maxL := nL) (ret := none) hy rfl ?_
  intro p e s m args below meth c s₁ B hml htb hv
  obtain ⟨rfl, hsz, ⟨hP, hK, hD⟩, hST⟩ := hv
  subst hsz
  have hts := atoms_spec (ws := lw_ws y cc nL (none)) B.pre
  have C : VC p s m av.toArray meth c G (va_A pre.flatten s.heap.size) nL cc y.cls := ⟨B.exec, B.bytes, hml, findClass_of_methodNamed B.named, fun w hw => hts w (List.mem_cons_of_mem _ hw), hK, fun q h => Or.inr h, hST, B.notSynchronized⟩
  have hl := lv_entry av hav
  rw [lg_entry_eq]
  exact body p e s m av.toArray below meth c _ _ C B.returns htb rfl s.heap [] _ hP hD.self va_S.rf hl
theorem met_of_vx {y : MethodName} {ws : List Cond} {rm : Room} {Pc : Array Value → State → Prop} {Qc : Array Value → State → Outcome → State → Prop} {XC : String → State → State → Prop} {mc ms : Nat} {free : Addr → Prop} (h : ∀ E st t, XC E st t → False) (hM : vx_Met l y ws rm Pc Qc XC mc ms free) : Met l y ws rm Pc Qc mc ms free := by
  intro p e ha hc hk s m args below hf happ hP hK
  obtain ⟨n, o, h1, h2, h3, h4⟩ := hM p e ha hc hk s m args below hf happ hP hK
  refine ⟨n, o, h1, h2, h3, ?_⟩
  rcases h4 with h4 | ⟨q, -, E, ce, L, hx, -⟩
  · exact h4
  · exact (h _ _ _ hx).elim
theorem Mi_of_Xi {y : MethodName} {cc : ByteArray} {nL : Nat} {ret : FieldType} {fr lo mc ms : Nat} {av : List Value} {pre : List va_W} {post : Int32 → List va_W → Prop} {xc : String → Prop} (h : ∀ E, xc E → False) (hM : Xi l G y cc nL ret fr lo mc ms av pre post xc) : Mi l G y cc nL ret fr lo mc ms av pre post := fun sz => met_of_vx (fun E st t q => by obtain ⟨u, hu, -⟩ := q; exact h u hu) (hM sz)
theorem Mv_of_Xv {y : MethodName} {cc : ByteArray} {nL : Nat} {fr lo mc ms : Nat} {av : List Value} {pre : List va_W} {post : List va_W → Prop} {xc : String → Prop} (h : ∀ E, xc E → False) (hM : Xv l G y cc nL fr lo mc ms av pre post xc) : Mv l G y cc nL fr lo mc ms av pre post := fun sz => met_of_vx (fun E st t q => by obtain ⟨u, hu, -⟩ := q; exact h u hu) (hM sz)
theorem V_xiret (C : VC p s m args meth c G A nL cc own) {mc ms : Nat} {pre : List va_W} {xc : String → Prop} {post : Int32 → List va_W → Prop} (hQ : Q = vx_MQ below (QcI G A post) (XCx G A pre xc) args s mc ms A) (hr : meth.sig.returnType = some .int) {x : Int32} (is : List Nat) {u : List va_W} (hn : va_nd is = true) (hu : is.map (fun i => ps[i]?) = u.map some) (hk : k ≤ mc) (hs : n ≤ ms) (hdg : decode cc pc = .ok (.ireturn, 1)) (hp : post x u) : V p l e R s m args below meth c Q G A nL ps k n (pc) L (.int x :: []) := by
  subst hQ
  exact fun H locs ls hP hD hS hl => vx_ret (W.widen hk hs (W.iret C.1 C.2.1 hr (fun t ht hW => ⟨⟨x, u, rfl, hp, ⟨by rw [ht]; exact sel_P hP is hu, va_K.moved hW.alike C.K, sel_D hD is hn hu⟩⟩, hS.F ht⟩) hS.2.2 hdg C.locks))
theorem V_xzret (C : VC p s m args meth c G A nL cc own) {mc ms : Nat} {pre : List va_W} {xc : String → Prop} {post : Int32 → List va_W → Prop} (hQ : Q = vx_MQ below (QcI G A post) (XCx G A pre xc) args s mc ms A) (hr : meth.sig.returnType = some .boolean) {x : Int32} (hx : x = 0 ∨ x = 1) (is : List Nat) {u : List va_W} (hn : va_nd is = true) (hu : is.map (fun i => ps[i]?) = u.map some) (hk : k ≤ mc) (hs : n ≤ ms) (hdg : decode cc pc = .ok (.ireturn, 1)) (hp : post x u) : V p l e R s m args below meth c Q G A nL ps k n (pc) L (.int x :: []) := by
  subst hQ
  exact fun H locs ls hP hD hS hl => vx_ret (W.widen hk hs (W.zret C.1 C.2.1 hr (by rcases hx with rfl | rfl <;> rfl) (fun t ht hW => ⟨⟨x, u, rfl, hp, ⟨by rw [ht]; exact sel_P hP is hu, va_K.moved hW.alike C.K, sel_D hD is hn hu⟩⟩, hS.F ht⟩) hS.2.2 hdg C.locks))
theorem V_xvret (C : VC p s m args meth c G A nL cc own) {mc ms : Nat} {pre : List va_W} {xc : String → Prop} {post : List va_W → Prop} (hQ : Q = vx_MQ below (QcV G A post) (XCx G A pre xc) args s mc ms A) (hr : meth.sig.returnType = none) (is : List Nat) {u : List va_W} (hn : va_nd is = true) (hu : is.map (fun i => ps[i]?) = u.map some) (hk : k ≤ mc) (hs : n ≤ ms) (hdg : decode cc pc = .ok (.return_, 1)) (hp : post u) : V p l e R s m args below meth c Q G A nL ps k n (pc) L ([]) := by
  subst hQ
  exact fun H locs ls hP hD hS hl => vx_ret (W.widen hk hs (W.vret C.1 C.2.1 hr (fun t ht hW => ⟨⟨u, rfl, hp, ⟨by rw [ht]; exact sel_P hP is hu, va_K.moved hW.alike C.K, sel_D hD is hn hu⟩⟩, hS.F ht⟩) hS.2.2 hdg C.locks))
def excN : List String := ["java/lang/RuntimeException", "java/lang/Exception"]
theorem exc_hat {own : String} {ic : Nat} {cls : String} (C : VC p s m args meth c G A nL cc own) (h : ∀ w ∈ vx_atS own ic cls excN, w ∈ lw_tbl ∧ (goodWord w = true ∨ sfW w = true)) : ∀ w ∈ vx_atS own ic cls excN, w.before args s = true := fun w hw => by
  obtain ⟨h1, h2⟩ := h w hw
  by_cases g : goodWord w = true
  · exact C.wd (List.mem_filter.mpr ⟨h1, g⟩)
  · have h3 := h2.resolve_left g
    have h4 := C.sT.2.2.2.2.2.2.2.1 w (List.mem_filter.mpr ⟨h1, h3⟩)
    refine va_Nw.use ?_ h4
    cases w <;> first | rfl | (simp only [sfW, Bool.and_eq_true] at h3; exact h3.1) | exact absurd h3 (by decide)
theorem V_throwS (C : VC p s m args meth c G A nL cc own) (hT : ∀ x ∈ c.exceptionTable.toList, False) (hl0 : l.stackTraces = false) {mc ms : Nat} {pre : List va_W} {xc : String → Prop} {Qc : Array Value → State → Outcome → State → Prop} (hQ : Q = vx_MQ below Qc (XCx G A pre xc) args s mc ms A) {cls text : String} {ik is ic : Nat} (hcls : Bundle.fit cls = true) (hk : Cond.classLink own ik cls ∈ lw_all) (hini : Cond.initialized cls ∈ lw_all) (hstr : (own, is, text) ∈ lw_strs) (hat : ∀ w ∈ vx_atS own ic cls excN, w ∈ lw_tbl ∧ (goodWord w = true ∨ sfW w = true))
    (hgood : ∀ w ∈ Cond.classLink own ik cls :: Cond.initialized cls :: vx_atS own ic cls excN, vx_ot w = true)
    (d0 : decode cc pc = .ok (.new ik, 3)) (d3 : decode cc (pc + 3) = .ok (.dup, 1)) (d4 : decode cc (pc + 4) = .ok (.ldc is, 2)) (d6 : decode cc (pc + 6) = .ok (.invokespecial ic, 3)) (d9 : decode cc (pc + 9) = .ok (.athrow, 1))
    (hRf : 5 < R.frames) (hRl : (st.map fun v => v.category).sum + 82 ≤ R.locals) (hRc : k + 1 ≤ R.cells) (hRs : n + 6 ≤ R.slots) (hmc : k + 1 ≤ mc) (hms : n + 6 ≤ ms) (is0 : List Nat) (hn0 : va_nd is0 = true) (hu0 : is0.map (fun i => ps[i]?) = pre.map some) (hxc : xc cls) : V p l e R s m args below meth c Q G A nL ps k n (pc) L (st) := by
  subst hQ
  intro H locs ls hP hD hS hl
  obtain ⟨sa, hsa⟩ := C.sT.2.2.2.2.2.2.2.2.2.2 _ hstr
  refine vx_throwS (names := excN) (sa := sa) C.1 C.2.1 hl0 C.2.2.2.1 hcls (by decide +kernel) (C.wd hk) (C.wd hini) hsa (exc_hat C hat) hgood C.sT.2.2.2.2.2.1 C.sT.2.2.2.2.2.2.1 hS (by rw [C.2.2.1]; exact hl.1) d0 d3 d4 d6 d9 (fun x hx => (hT x hx).elim) (by show 2 + 3 < _; omega) (by show _ + (13 * (2 + 1) + 43) ≤ _; omega) hRc hRs C.locks (fun t ht hsz hq => ?_) hS.2.2 hmc hms
  exact ⟨cls, hxc, ⟨rfl, (sel_P hP is0 hu0).kept (fun k9 x hx => hq x.1 ((sel_P hP is0 hu0) k9 x hx).lt), va_K.moved ht C.K, sel_D hD is0 hn0 hu0⟩, ⟨Nat.le_trans hS.1 hsz, fun q h1 h2 => (hq q (Nat.lt_of_lt_of_le h1 hS.1)).trans (hS.2.1 q h1 h2)⟩⟩
theorem V_throwSW (C : VC p s m args meth c G A nL cc own) (hT : ∀ x ∈ c.exceptionTable.toList, False) (hl0 : l.stackTraces = false) {mc ms : Nat} {pre : List va_W} {xc : String → Prop} {Qc : Array Value → State → Outcome → State → Prop} (hQ : Q = vx_MQ below Qc (XCx G A pre xc) args s mc ms A) {cls text : String} {ik is ic : Nat} (hcls : Bundle.fit cls = true) (hk : Cond.classLink own ik cls ∈ lw_all) (hini : Cond.initialized cls ∈ lw_all) (hstr : (own, is, text) ∈ lw_strs) (hat : ∀ w ∈ vx_atS own ic cls excN, w ∈ lw_tbl ∧ (goodWord w = true ∨ sfW w = true))
    (hgood : ∀ w ∈ Cond.classLink own ik cls :: Cond.initialized cls :: vx_atS own ic cls excN, vx_ot w = true)
    (d0 : decode cc pc = .ok (.new ik, 3)) (d3 : decode cc (pc + 3) = .ok (.dup, 1)) (d4 : decode cc (pc + 4) = .ok (.ldc_w is, 3)) (d6 : decode cc (pc + 7) = .ok (.invokespecial ic, 3)) (d9 : decode cc (pc + 10) = .ok (.athrow, 1))
    (hRf : 5 < R.frames) (hRl : (st.map fun v => v.category).sum + 82 ≤ R.locals) (hRc : k + 1 ≤ R.cells) (hRs : n + 6 ≤ R.slots) (hmc : k + 1 ≤ mc) (hms : n + 6 ≤ ms) (is0 : List Nat) (hn0 : va_nd is0 = true) (hu0 : is0.map (fun i => ps[i]?) = pre.map some) (hxc : xc cls) : V p l e R s m args below meth c Q G A nL ps k n (pc) L (st) := by
  subst hQ
  intro H locs ls hP hD hS hl
  obtain ⟨sa, hsa⟩ := C.sT.2.2.2.2.2.2.2.2.2.2 _ hstr
  refine vx_throwSW (names := excN) (sa := sa) C.1 C.2.1 hl0 C.2.2.2.1 hcls (by decide +kernel) (C.wd hk) (C.wd hini) hsa (exc_hat C hat) hgood C.sT.2.2.2.2.2.1 C.sT.2.2.2.2.2.2.1 hS (by rw [C.2.2.1]; exact hl.1) d0 d3 d4 d6 d9 (fun x hx => (hT x hx).elim) (by show 2 + 3 < _; omega) (by show _ + (13 * (2 + 1) + 43) ≤ _; omega) hRc hRs C.locks (fun t ht hsz hq => ?_) hS.2.2 hmc hms
  exact ⟨cls, hxc, ⟨rfl, (sel_P hP is0 hu0).kept (fun k9 x hx => hq x.1 ((sel_P hP is0 hu0) k9 x hx).lt), va_K.moved ht C.K, sel_D hD is0 hn0 hu0⟩, ⟨Nat.le_trans hS.1 hsz, fun q h1 h2 => (hq q (Nat.lt_of_lt_of_le h1 hS.1)).trans (hS.2.1 q h1 h2)⟩⟩
theorem V_xcallS (C : VC p s m args meth c G A nL cc own) (hT : ∀ x ∈ c.exceptionTable.toList, False) {mc0 ms0 : Nat} {pre0 : List va_W} {xc0 : String → Prop} {Qc : Array Value → State → Outcome → State → Prop} (hQ : Q = vx_MQ below Qc (XCx G A pre0 xc0) args s mc0 ms0 A)
    {y : MethodName} {bytes : ByteArray} {maxL fr lo mc ms ix : Nat} {pre : List va_W} {post : List va_W → Prop} {xc : String → Prop} (As : List Value) (hM : Xv l G y bytes maxL fr lo mc ms As pre post xc) (hdg : decode cc pc = .ok (.invokestatic ix, 3)) (hlink : Cond.methodLink own ix y ∈ lw_all) (hstat : Cond.static y ∈ lw_all) (hini : Cond.initialized y.cls ∈ lw_all) (hcode : Cond.code y bytes maxL none ∈ lw_all)
    (hd : y.cls ≠ "java/lang/invoke/MethodHandle" ∧ y.cls ≠ "java/lang/invoke/VarHandle" ∧ (parseMethodDescriptor y.desc).map (fun d => d.parameters.length) = some As.length) (hR : fr + 1 ≤ R.frames ∧ 8 + (maxL + 11) + lo ≤ R.locals) (hst : st = As.reverse ++ rest) (hcat : (rest.map fun v => v.category).sum ≤ 8) (hf : k + mc ≤ R.cells ∧ n + ms ≤ R.slots) (hpre : pre = []) (hmc : k + mc ≤ mc0) (hms : n + ms ≤ ms0) (is0 : List Nat) (hn0 : va_nd is0 = true) (hu0 : is0.map (fun i => ps[i]?) = pre0.map some) (hx : ∀ E, xc E → xc0 E) (kk : ∀ u, post u → u = [] → V p l e R s m args below meth c Q G A nL ps (k + mc) (n + ms) (pc + 3) L (rest)) (hpn : ∀ u, post u → u = []) : V p l e R s m args below meth c Q G A nL ps k n (pc) L (st) := by
  subst hQ hpre
  intro H locs ls hP hD hS hl
  have hG : GoodIn lw_all (va_wsS own ix y (lw_ws y bytes maxL none)) := goodIn_app (a := [.methodLink own ix y, .static y, .initialized y.cls]) (fun w hw => by simp only [List.mem_cons, List.not_mem_nil, or_false] at hw; rcases hw with rfl | rfl | rfl <;> exact ⟨by assumption, good_of_word (lw_all_good (by assumption))⟩) (lw_goodIn hcode)
  have hrun := vx_runS (e := e) (below := below) (meth := meth) (g := F0 m pc ls st) (rest := rest) (cells := k) (slots := n) (locs := locs) C.fix (hM H.size) (va_cwS As.length C.2.2.2.2.1 hG rfl rfl rfl hd hR) ⟨wPre_blind, fun U hU hW => ⟨rfl, w_pre C hP hD hS (is := []) rfl rfl hU hW⟩⟩ rfl rfl hl.1 hst (lv_room hcat) hdg hf
  have hF : ∀ q, va_A ([] : List va_W).flatten H.size q → A q := w_free hD hS C.hA (is := []) rfl
  refine vx_callv hrun hS (fun q _ h => hF q h) hF (fun q _ h => hF q h) (fun E ce q9 u t H1 locs1 ht hvm hp hB hz hk1 hS1 hce hcv hcl => ?_) (fun u t H1 locs1 ht hvm hp hB hz hk1 hS1 => ?_)
  · obtain ⟨rfl, hP1, hK1, hD1⟩ := hB
    have hP2 : va_P G.1 vwCl ps.flatten H1 := hP.kept (fun k9 x hx => hk1 x.1 (hP k9 x hx).lt (fun h => by
      rcases h with ⟨k8, e8, h8⟩ | h8
      · exact absurd h8 (by simp)
      · exact absurd (hP k9 x hx).lt (by omega)))
    exact vx_out (fun x hx => (hT x hx).elim) C.locks hce hcv hcl (fun t2 ht2 hv2 => ⟨E, hx E hp, ⟨rfl, by rw [ht2]; exact sel_P hP2 is0 hu0, va_K.moved hv2 C.K, sel_D hD is0 hn0 hu0⟩, hS1.F ht2⟩) hS1.2.2 hmc hms
  · have hP2 : va_P G.1 vwCl ps.flatten H1 := hP.kept (fun k9 x hx => hk1 x.1 (hP k9 x hx).lt (fun h => by
      rcases h with ⟨k8, e8, h8⟩ | h8
      · exact absurd h8 (by simp)
      · exact absurd (hP k9 x hx).lt (by omega)))
    exact kk u hp (hpn u hp) H1 locs1 ls hP2 hD hS1 hl
end VX
theorem excW_is : ∀ w ∈ vx_atS "ClinkerWorks" 88 "java/lang/IllegalStateException" excN, w ∈ lw_tbl ∧ (goodWord w = true ∨ sfW w = true) := by decide +kernel
theorem excW_ia : ∀ w ∈ vx_atS "ClinkerWorks" 298 "java/lang/IllegalArgumentException" excN, w ∈ lw_tbl ∧ (goodWord w = true ∨ sfW w = true) := by decide +kernel
theorem excW_ix : ∀ w ∈ vx_atS "ClinkerWorks" 409 "java/lang/IndexOutOfBoundsException" excN, w ∈ lw_tbl ∧ (goodWord w = true ∨ sfW w = true) := by decide +kernel
