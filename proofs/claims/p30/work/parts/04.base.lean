/-! ===== worlds in pieces: the base ===== -/
abbrev VG : Type := va_G × (Nat → ClassId) × (Nat → Nat)
abbrev tysA (dA : Nat → ClassId) : List (ClassId × FieldType) := [(dA 0, .int), (dA 1, .int), (dA 2, .int), (dA 3, .object "ClinkerWorks$Block"), (dA 4, .object "ClinkerWorks$Charge"), (dA 5, .object "ClinkerWorks$Lot"), (dA 6, .object "ClinkerWorks$Silo"), (dA 7, .int), (dA 8, .int), (dA 9, .array .int)]
theorem wp_iff {D : va_G} {cl : List vw_C} {ws : va_W} {H : Heap} : va_P D cl ws H ↔ ∀ q ∈ ws, va_at D cl q H :=
  ⟨fun h q hq => by obtain ⟨k, hk⟩ := List.getElem?_of_mem hq; exact h k q hk, fun h k q hk => h q (List.mem_of_getElem? hk)⟩
def wN (ws : va_W) : Prop := List.Pairwise (fun (a b : Nat × va_E) => a.1 ≠ b.1) ws
theorem wd_iff {A : Nat → Prop} {ws : va_W} : va_D A ws ↔ wN ws ∧ ∀ q ∈ ws, A q.1 := by
  unfold wN
  rw [List.pairwise_iff_getElem]
  constructor
  · intro ⟨h1, h2⟩
    refine ⟨fun i j hi hj hij e => ?_, fun q hq => ?_⟩
    · have := h1 i j _ _ (List.getElem?_eq_getElem hi) (List.getElem?_eq_getElem hj) e
      omega
    · obtain ⟨k, hk⟩ := List.getElem?_of_mem hq
      exact h2 k q hk
  · intro ⟨h1, h2⟩
    refine ⟨fun i j p q hi hj e => ?_, fun k q hk => h2 q (List.mem_of_getElem? hk)⟩
    obtain ⟨li, rfl⟩ := List.getElem?_eq_some_iff.mp hi
    obtain ⟨lj, rfl⟩ := List.getElem?_eq_some_iff.mp hj
    rcases Nat.lt_trichotomy i j with h | h | h
    · exact absurd e (h1 i j li lj h)
    · exact h
    · exact absurd e.symm (h1 j i lj li h)
/-- pieces by their places -/
theorem sel_of {α : Type} {ps rs : List α} {is : List Nat} (h : is.map (fun i => ps[i]?) = rs.map some) {k : Nat} {r : α} (hk : rs[k]? = some r) : ∃ i, is[k]? = some i ∧ ps[i]? = some r := by
  have h1 : (is.map (fun i => ps[i]?))[k]? = some (some r) := by rw [h, List.getElem?_map, hk]; rfl
  rw [List.getElem?_map] at h1
  cases hi : is[k]? with
  | none => rw [hi] at h1; cases h1
  | some i => rw [hi] at h1; exact ⟨i, rfl, Option.some.inj h1⟩
theorem sel_mem {ps rs : List va_W} {is : List Nat} (h : is.map (fun i => ps[i]?) = rs.map some) {q : Nat × va_E} (hq : q ∈ rs.flatten) : ∃ i r, i ∈ is ∧ ps[i]? = some r ∧ q ∈ r ∧ q ∈ ps.flatten := by
  obtain ⟨r, hr, hqr⟩ := List.mem_flatten.mp hq
  obtain ⟨k, hk⟩ := List.getElem?_of_mem hr
  obtain ⟨i, h1, h2⟩ := sel_of h hk
  exact ⟨i, r, List.mem_of_getElem? h1, h2, hqr, List.mem_flatten.mpr ⟨r, List.mem_of_getElem? h2, hqr⟩⟩
theorem sel_P {D : va_G} {cl : List vw_C} {ps rs : List va_W} {H : Heap} (hP : va_P D cl ps.flatten H) (is : List Nat) (h : is.map (fun i => ps[i]?) = rs.map some) : va_P D cl rs.flatten H :=
  wp_iff.mpr fun q hq => by obtain ⟨i, r, -, -, -, h4⟩ := sel_mem h hq; exact wp_iff.mp hP q h4
theorem wN_apart {ps : List va_W} (hN : wN ps.flatten) {i j : Nat} {r t : va_W} (hi : ps[i]? = some r) (hj : ps[j]? = some t) (hij : i ≠ j) : ∀ x ∈ r, ∀ y ∈ t, x.1 ≠ y.1 := by
  unfold wN at hN
  rw [List.pairwise_flatten, List.pairwise_iff_getElem] at hN
  obtain ⟨-, hN⟩ := hN
  obtain ⟨li, rfl⟩ := List.getElem?_eq_some_iff.mp hi
  obtain ⟨lj, rfl⟩ := List.getElem?_eq_some_iff.mp hj
  intro x hx y hy
  rcases Nat.lt_trichotomy i j with h | h | h
  · exact hN i j li lj h x hx y hy
  · exact absurd h hij
  · exact fun e => hN j i lj li h y hy x hx e.symm
theorem sel_D {A : Nat → Prop} {ps rs : List va_W} (hD : va_D A ps.flatten) (is : List Nat) (hn : va_nd is = true) (h : is.map (fun i => ps[i]?) = rs.map some) : va_D A rs.flatten := by
  obtain ⟨hN, hA⟩ := wd_iff.mp hD
  refine wd_iff.mpr ⟨?_, fun q hq => ?_⟩
  · unfold wN
    rw [List.pairwise_flatten, List.pairwise_iff_getElem]
    refine ⟨fun r hr => ?_, fun a b ha hb hab x hx y hy => ?_⟩
    · obtain ⟨k, hk⟩ := List.getElem?_of_mem hr
      obtain ⟨i, -, h2⟩ := sel_of h hk
      have hN2 := hN
      unfold wN at hN2
      rw [List.pairwise_flatten] at hN2
      exact hN2.1 r (List.mem_of_getElem? h2)
    · obtain ⟨i, h1, h2⟩ := sel_of h (List.getElem?_eq_getElem ha)
      obtain ⟨j, h3, h4⟩ := sel_of h (List.getElem?_eq_getElem hb)
      refine wN_apart hN h2 h4 (fun e => ?_) x hx y hy
      subst e
      have := va_nd_inj is hn a b i h1 h3
      omega
  · obtain ⟨i, r, -, -, -, h4⟩ := sel_mem h hq
    exact hA q h4
theorem sel_apart {A : Nat → Prop} {ps pre rs : List va_W} (hD : va_D A ps.flatten) {is js : List Nat} (hi : is.map (fun i => ps[i]?) = pre.map some) (hj : js.map (fun i => ps[i]?) = rs.map some) (hx : ∀ j ∈ js, j ∉ is) {q q' : Nat × va_E} (hq : q ∈ pre.flatten) (hq' : q' ∈ rs.flatten) : q.1 ≠ q'.1 := by
  obtain ⟨i, r, h1, h2, h3, -⟩ := sel_mem hi hq
  obtain ⟨j, t, g1, g2, g3, -⟩ := sel_mem hj hq'
  exact wN_apart (wd_iff.mp hD).1 h2 g2 (fun e => hx j g1 (e ▸ h1)) q h3 q' g3
theorem w_free {A : Nat → Prop} {ps pre : List va_W} {H0 H : Heap} {locs : List Loc} (hD : va_D A ps.flatten) (hS : va_S A H0 H locs) (hA : ∀ q, H0.size ≤ q → A q) {is : List Nat} (hi : is.map (fun i => ps[i]?) = pre.map some) : ∀ q, va_A pre.flatten H.size q → A q := by
  intro q h
  rcases h with ⟨k, e, h⟩ | h
  · obtain ⟨i, r, -, -, -, h4⟩ := sel_mem hi (List.mem_of_getElem? h)
    exact (wd_iff.mp hD).2 _ h4
  · exact hA q (Nat.le_trans hS.1 h)
theorem w_join {A : Nat → Prop} {D : va_G} {cl : List vw_C} {ps pre rs u : List va_W} {H H1 : Heap} (hP : va_P D cl ps.flatten H) (hD : va_D A ps.flatten) {is js : List Nat} (hi : is.map (fun i => ps[i]?) = pre.map some) (hj : js.map (fun i => ps[i]?) = rs.map some) (hn : va_nd js = true) (hx : ∀ j ∈ js, j ∉ is)
    (hk : ∀ q : Nat, q < H.size → ¬ va_A pre.flatten H.size q → H1[q]? = H[q]?) (hF : ∀ q, va_A pre.flatten H.size q → A q) (hP1 : va_P D cl u.flatten H1) (hD1 : va_D (va_A pre.flatten H.size) u.flatten) : va_P D cl (u ++ rs).flatten H1 ∧ va_D A (u ++ rs).flatten := by
  have hPr := sel_P hP js hj
  have out : ∀ q ∈ rs.flatten, q.1 < H.size ∧ ¬ va_A pre.flatten H.size q.1 := by
    intro q hq
    have hl := (wp_iff.mp hPr q hq).lt
    refine ⟨hl, fun h => ?_⟩
    rcases h with ⟨k, e, h⟩ | h
    · exact sel_apart hD hi hj hx (List.mem_of_getElem? h) hq rfl
    · omega
  rw [List.flatten_append]
  refine ⟨wp_iff.mpr fun q hq => ?_, wd_iff.mpr ⟨?_, fun q hq => ?_⟩⟩
  · rcases List.mem_append.mp hq with h | h
    · exact wp_iff.mp hP1 q h
    · exact (wp_iff.mp hPr q h).kept (hk q.1 (out q h).1 (out q h).2)
  · unfold wN
    rw [List.pairwise_append]
    exact ⟨(wd_iff.mp hD1).1, (wd_iff.mp (sel_D hD js hn hj)).1, fun x hx y hy e => (out y hy).2 (e ▸ (wd_iff.mp hD1).2 x hx)⟩
  · rcases List.mem_append.mp hq with h | h
    · exact hF _ ((wd_iff.mp hD1).2 q h)
    · exact (wd_iff.mp (sel_D hD js hn hj)).2 q h
/-- one cell that is a piece -/
theorem cell_at : ∀ {ps : List va_W} {i : Nat} {a : Nat} {e : va_E}, ps[i]? = some [(a, e)] → ∃ k, ps.flatten[k]? = some (a, e) ∧ ∀ e' : va_E, ps.flatten.set k (a, e') = (ps.set i [(a, e')]).flatten
  | [], i, a, e, h => by simp at h
  | r :: ps, 0, a, e, h => by
    rw [List.getElem?_cons_zero] at h
    cases h
    exact ⟨0, rfl, fun e' => rfl⟩
  | r :: ps, i + 1, a, e, h => by
    rw [List.getElem?_cons_succ] at h
    obtain ⟨k, h1, h2⟩ := cell_at h
    refine ⟨r.length + k, ?_, fun e' => ?_⟩
    · rw [List.flatten_cons, List.getElem?_append_right (by omega), Nat.add_sub_cancel_left]
      exact h1
    · rw [List.flatten_cons, List.set_append_right _ _ (by omega), Nat.add_sub_cancel_left, h2]
      rfl
/-- one cell within a piece -/
theorem cell_in : ∀ {ps : List va_W} {i t : Nat} {r : va_W} {a : Nat} {e : va_E}, ps[i]? = some r → r[t]? = some (a, e) → ∃ k, ps.flatten[k]? = some (a, e) ∧ ∀ e' : va_E, ps.flatten.set k (a, e') = (ps.set i (r.set t (a, e'))).flatten
  | [], i, t, r, a, e, h, _ => by simp at h
  | r0 :: ps, 0, t, r, a, e, h, h2 => by
    rw [List.getElem?_cons_zero] at h
    cases h
    have hl := (List.getElem?_eq_some_iff.mp h2).1
    refine ⟨t, ?_, fun e' => ?_⟩
    · rw [List.flatten_cons, List.getElem?_append_left hl]; exact h2
    · rw [List.flatten_cons, List.set_append_left _ _ hl]; rfl
  | r0 :: ps, i + 1, t, r, a, e, h, h2 => by
    rw [List.getElem?_cons_succ] at h
    obtain ⟨k, h1, h3⟩ := cell_in h h2
    refine ⟨r0.length + k, ?_, fun e' => ?_⟩
    · rw [List.flatten_cons, List.getElem?_append_right (by omega), Nat.add_sub_cancel_left]
      exact h1
    · rw [List.flatten_cons, List.set_append_right _ _ (by omega), Nat.add_sub_cancel_left, h3]
      rfl
theorem mem_at {ps : List va_W} (i t : Nat) {r : va_W} {x : Nat × va_E} (h : ps[i]? = some r) (h2 : r[t]? = some x) : x ∈ ps.flatten := List.mem_flatten.mpr ⟨r, List.mem_of_getElem? h, List.mem_of_getElem? h2⟩
def famW (n : Nat) (g : Nat → va_W) : va_W := ((List.range n).map g).flatten
def famX (n i : Nat) (g : Nat → va_W) : va_W := (((List.range n).erase i).map g).flatten
theorem mem_fam {ps : List va_W} (j t : Nat) {N : Nat} {g : Nat → va_W} {x : Nat × va_E} (h : ps[j]? = some (famW N g)) (i : Nat) (hi : i < N) (h2 : (g i)[t]? = some x) : x ∈ ps.flatten :=
  List.mem_flatten.mpr ⟨_, List.mem_of_getElem? h, List.mem_flatten.mpr ⟨g i, List.mem_map.mpr ⟨i, List.mem_range.mpr hi, rfl⟩, List.mem_of_getElem? h2⟩⟩
/-- words that stay as tables grow warm -/
def sfW : Cond → Bool
  | .methodLinkNest .. => true
  | .declares _ => true
  | .castable .. => true
  | w => w.onTables && w.keeps
theorem sf_warm {s U : State} (hW : s.WarmedH U.vm) : ∀ {w : Cond}, sfW w = true → va_Nw w s → va_Nw w U := by
  intro w hw h
  cases w <;> first
    | exact va_Nw.warmM hW h
    | exact va_Nw.warmD hW h
    | exact va_Nw.warmC hW h
    | exact word_at hW (Or.inl hw) h
def lw_soft : List Cond := lw_tbl.filter sfW
def tb4 (a b c d : Int32) : Nat → Int32 := fun j => match j with
  | 0 => a
  | 1 => b
  | 2 => c
  | _ => d
def lw_faces : List (String × MethodName × MethodName) := []
def lw_aoC : List String := ["ClinkerWorks$Block", "ClinkerWorks$Charge", "ClinkerWorks$Lot", "ClinkerWorks$Silo"]
/-- a static table of ints -/
def vTb (C n : String) (t N : Nat) (f : Nat → Int32) (A : Nat → Prop) (U : State) (H : Heap) : Prop := va_Z C n "[I" (.ref t) A U H ∧ va_T .int t N (fun j => .int (f j)) A U H
theorem vTb.step {C n : String} {t N : Nat} {f : Nat → Int32} {A B : Nat → Prop} {s U : State} {H H1 : Heap} (h : vTb C n t N f A s H) (hv : s.vm.Alike U.vm) (hk : ∀ a : Nat, a < H.size → ¬ A a → H1[a]? = H[a]?) (hAB : ∀ q, B q → A q) : vTb C n t N f B U H1 := ⟨((h.1.moved hv).kept hk).narrow hAB, ((h.2.moved hv).kept hk).narrow hAB⟩
/-- an array class over an array class -/
def va_AOA (ty : FieldType) (U : State) : Prop := (Cond.arrayOver (.array ty)).before #[] U = true
theorem va_AOA.use {ty : FieldType} {A : Array Value} {U : State} (h : va_AOA ty U) : (Cond.arrayOver (.array ty)).before A U = true := h
theorem va_AOA.moved {ty : FieldType} {u U : State} (hvm : u.vm.Alike U.vm) (h : va_AOA ty u) : va_AOA ty U := by
  unfold va_AOA Cond.before at h ⊢
  simp only [Cond.holds, Cond.value, beq_iff_eq, Option.bind_eq_some_iff, Option.map_eq_some_iff] at h ⊢
  obtain ⟨comp, h1, c, h2, k, h3, h4⟩ := h
  obtain ⟨k', hk', he⟩ := hvm.2.2 _ _ h3
  refine ⟨comp, (hvm.findClass _ _).trans h1, c, ?_, k', hk', ?_⟩
  · have e1 := va_idx_bare U.vm comp
    have e2 := va_idx_bare u.vm comp
    have eb : U.vm.bare = u.vm.bare := by first | exact hvm.bare_eq | exact hvm.bare_eq.symm
    rw [eb] at e1
    exact (e1.symm.trans e2).trans h2
  · have hkind : k'.kind = k.kind := by rw [he]
    rw [hkind, hvm.findClass]
    exact h4
/-- what is given of the statics, the constants and the soft words -/
def VST (G : VG) (A : Nat → Prop) (U : State) (H : Heap) : Prop :=
  vTb "ClinkerWorks$Block" "BELIEVED" (G.2.2 0) 4 (tb4 5 2 1 0) A U H ∧
  ((∃ xs : Nat → Int32, va_T .int (G.2.2 1) (G.2.2 2) (fun j => .int (xs j)) A U H) ∧ G.2.2 2 ≤ 260) ∧ True ∧ True ∧
  va_AOA .int U ∧
  vx_Zq Bundle.tN "UNASSIGNED_STACK" Bundle.steD A U H ∧ vx_Zq Bundle.tN "SUPPRESSED_SENTINEL" Bundle.listD A U H ∧
  (∀ w ∈ lw_soft, va_Nw w U) ∧ (∀ q ∈ lw_faces, va_Fw q.1 q.2.1 q.2.2 U) ∧ (∀ C ∈ lw_aoC, va_AO C U) ∧ (∀ q ∈ lw_strs, ∃ sa, vk_R q.1 q.2.1 q.2.2 sa U)
theorem lw_faces_ok : ∀ q ∈ lw_faces, q.2.1.cls ≠ "java/lang/invoke/MethodHandle" ∧ q.2.1.cls ≠ "java/lang/invoke/VarHandle" := by decide +kernel
theorem VST.step {G : VG} {A B : Nat → Prop} {s U : State} {H H1 : Heap} (h : VST G A s H) (hW : s.WarmedH U.vm) (hk : ∀ a : Nat, a < H.size → ¬ A a → H1[a]? = H[a]?) (hAB : ∀ q, B q → A q) : VST G B U H1 := by
  obtain ⟨h1, h2, h3, h4, h5, h6, h7, h8, h9, h10, h11⟩ := h
  have hv := hW.alike
  exact ⟨h1.step hv hk hAB, ⟨by obtain ⟨xs, hx⟩ := h2.1; exact ⟨xs, ((hx.moved hv).kept hk).narrow hAB⟩, h2.2⟩, trivial, trivial, h5.moved hv, ((h6.moved hv).kept hk).narrow hAB, ((h7.moved hv).kept hk).narrow hAB,
    fun w hw => sf_warm hW (List.mem_filter.mp hw).2 (h8 w hw), fun q hq => va_Fw.moved (lw_faces_ok q hq) hv (h9 q hq), fun C hC => va_AO.moved hv (h10 C hC), fun q hq => by obtain ⟨sa, hs⟩ := h11 q hq; exact ⟨sa, vk_R.warm hW hs⟩⟩
/-- a method's world -/
def wB (G : VG) (A : Nat → Prop) (ps : List va_W) (U : State) : Prop := va_P G.1 vwCl ps.flatten U.heap ∧ va_K G.1 vwCl (tysA G.2.1) U ∧ va_D A ps.flatten
def wPre (G : VG) (pre : List va_W) (sz : Nat) (U : State) : Prop := U.heap.size = sz ∧ wB G (fun _ => True) pre U ∧ VST G (va_A pre.flatten sz) U U.heap
abbrev lw_ws (y : MethodName) (cc : ByteArray) (n : Nat) (ret : Option FieldType) : List Cond := Cond.code y cc n ret :: lw_all
theorem lw_goodIn {y : MethodName} {cc : ByteArray} {n : Nat} {ret : Option FieldType} (h : Cond.code y cc n ret ∈ lw_all) : GoodIn lw_all (lw_ws y cc n ret) := fun w hw => by
  rcases List.mem_cons.mp hw with e | hw
  · rw [e]; exact ⟨h, good_of_word (lw_all_good h)⟩
  · exact ⟨hw, good_of_word (lw_all_good hw)⟩
theorem wPre_blind {G : VG} {pre : List va_W} {sz : Nat} {av : List Value} : FrameBlind (va_Pc av (wPre G pre sz)) := fun a U g mk q => by
  obtain ⟨q0, q1, ⟨q2, q3, q4⟩, q5⟩ := q
  have hW : U.WarmedH (U.calling g mk a).vm := State.WarmedH.refl U
  exact ⟨q0, q1, ⟨q2, va_K.moved hW.alike q3, q4⟩, q5.step hW (fun _ _ _ => rfl) (fun _ h => h)⟩
/-- contracts: an int, nothing, a long, a reference; or they throw -/
def Mi (l : Launch) (G : VG) (y : MethodName) (cc : ByteArray) (nL : Nat) (ret : FieldType) (fr lo mc ms : Nat) (av : List Value) (pre : List va_W) (post : Int32 → List va_W → Prop) : Prop :=
  ∀ sz : Nat, Met l y (lw_ws y cc nL (some ret)) { frames := fr, cells := mc, slots := ms, locals := lo } (va_Pc av (wPre G pre sz)) (va_Qi post (fun u t => wB G (va_A pre.flatten sz) u t) (va_A pre.flatten sz)) mc ms (va_A pre.flatten sz)
def Mv (l : Launch) (G : VG) (y : MethodName) (cc : ByteArray) (nL : Nat) (fr lo mc ms : Nat) (av : List Value) (pre : List va_W) (post : List va_W → Prop) : Prop :=
  ∀ sz : Nat, Met l y (lw_ws y cc nL none) { frames := fr, cells := mc, slots := ms, locals := lo } (va_Pc av (wPre G pre sz)) (va_Qv post (fun u t => wB G (va_A pre.flatten sz) u t) (va_A pre.flatten sz)) mc ms (va_A pre.flatten sz)
def Ml (l : Launch) (G : VG) (y : MethodName) (cc : ByteArray) (nL : Nat) (fr lo mc ms : Nat) (av : List Value) (pre : List va_W) (post : Int64 → List va_W → Prop) : Prop :=
  ∀ sz : Nat, Met l y (lw_ws y cc nL (some .long)) { frames := fr, cells := mc, slots := ms, locals := lo } (va_Pc av (wPre G pre sz)) (va_Ql post (fun u t => wB G (va_A pre.flatten sz) u t) (va_A pre.flatten sz)) mc ms (va_A pre.flatten sz)
def Mr (l : Launch) (G : VG) (y : MethodName) (cc : ByteArray) (nL : Nat) (ret : FieldType) (fr lo mc ms : Nat) (av : List Value) (pre : List va_W) (post : Nat → List va_W → Prop) : Prop :=
  ∀ sz : Nat, Met l y (lw_ws y cc nL (some ret)) { frames := fr, cells := mc, slots := ms, locals := lo } (va_Pc av (wPre G pre sz)) (va_Qr (S := Nat × List va_W) (fun u => post u.1 u.2) (fun u a t => a = u.1 ∧ wB G (va_A pre.flatten sz) u.2 t) (va_A pre.flatten sz)) mc ms (va_A pre.flatten sz)
