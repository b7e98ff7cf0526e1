/-! THE CLAIM OUT OF ONE WALK OF THE LAW'S BODY. Your part is whole_start (and what it stands on); all else here is the same for every law, but numbers. -/
def R_law : String := "ClinkerWorksLaw"
def lw_P (b : Addr) (xs : List Int32) (args : Array Value) (s : State) : Prop := args = #[.ref b] ∧ s.IntsAt b xs ∧ xs.length ≤ 260 ∧ (Jvm.Cond.and given_1 narrow_1).before args s = true
def lw_Q (_ : Array Value) (s : State) (o : Outcome) (t : State) : Prop := o = .returned (some (.int 1)) ∧ Framed s o t [] 853861 6540115
def lw_Z (below : List Frame) (a : Array Value) (s : State) : State → Prop := fun t => ∃ o, t.status = .running ∧ Ended t below o ∧ lw_Q a s o t
/-- the law's own end, with 1 on the stack, nothing written that was there before, its room as the claim has it -/
theorem lw_ret {p : Program} {l : Launch} {e : Env} {s : State} {m : MethodId} {below : List Frame} {meth : Method} {c : Code} {b : Nat} (hx : p.tables.exec = Jvm.exec) (hb : c.code = code) (hr : meth.sig.returnType = ret) (hlocks : meth.locks = false) {pc : Nat} {H : Heap} {ls : Array Slot} (hdg : decode code pc = .ok (.ireturn, 1)) : W p l e room_1 s m #[Value.ref b] below meth c H [] 853861 6540115 (lw_Z below #[Value.ref b] s) (F0 m pc ls [.int 1]) := by
  intro T hT X
  obtain ⟨fs, hret, hrun, hended, hW, hframe⟩ := X.leave (v := some (.int 1)) (hlocks := hlocks) (fun h => by rw [hr] at h; cases h)
  have hmeth' : T.vm.method? m = some meth := X.method'
  refine ⟨T.setFrames fs, ?_, .returned (some (.int 1)), hrun, hended, rfl, ⟨_, rfl⟩, hW, hframe⟩
  jvm_step X.here [X.here.top, hx, hb, hdg, hmeth', hr, ret, narrow_b1]
  (try refine ⟨rfl, ?_⟩); (try refine ⟨rfl, ?_⟩)
  first | (intro acts; rw [hret _ acts rfl rfl rfl]) | rw [hret _ _ rfl rfl rfl]
  exact Steps.refl _
/-- what holds at the law's entry: the machine, the code, the tables' words (any of lw_tbl by 'hts w (by decide +kernel)'), the script of L ints xs at the cell b, what the Statement gives of the start (any of its parts by flat_of_before) -/
def lw_At (p : Program) (s : State) (m : MethodId) (meth : Method) (c : Code) (b L : Nat) (xs : Nat → Int32) : Prop :=
  p.tables.exec = Jvm.exec ∧ c.code = code ∧ meth.sig.returnType = ret ∧ c.maxLocals = 22 ∧ s.vm.findClass R_law = some m.cls ∧ (∀ w ∈ lw_tbl, w.before #[Value.ref b] s = true) ∧ va_X b L xs s s.heap ∧ b < s.heap.size ∧ meth.locks = false ∧ (Jvm.Cond.and given_1 narrow_1).before #[Value.ref b] s = true
/-! ===== the start ===== -/
section VS
variable {s : State} {b : Nat}
abbrev lwA (s : State) : Nat → Prop := fun q => s.heap.size ≤ q
theorem lwA_no : ∀ a : Nat, a < s.heap.size → ¬ lwA s a := fun a h => Nat.not_le.mpr h
theorem lw_cls (hts : ∀ w ∈ lw_tbl, w.before #[Value.ref b] s = true) : ∃ D : va_G, ∀ (c : Nat) (q : vw_C), vwCl[c]? = some q → u_Kn s q.1 q.2.1 q.2.2 (D.1 c) (D.2 c) := by
  have ht : ∀ w ∈ lw_all, w.before #[Value.ref b] s = true := fun w hw => hts w (lw_all_tbl hw)
  obtain ⟨c0, e0, k0⟩ := u_known (C := RX0) (T := TX0) (N := 3) (n := 3) ht inAX0 (ht _ q204)
  obtain ⟨c1, e1, k1⟩ := u_known (C := RX0) (T := TX0) (N := 3) (n := 3) ht inAX0 (ht _ q204)
  obtain ⟨c2, e2, k2⟩ := u_known (C := RX1) (T := TX1) (N := 8) (n := 8) ht inAX1 (ht _ q91)
  obtain ⟨c3, e3, k3⟩ := u_known (C := RX2) (T := TX2) (N := 12) (n := 12) ht inAX2 (ht _ q84)
  obtain ⟨c4, e4, k4⟩ := u_known (C := RX3) (T := TX3) (N := 7) (n := 7) ht inAX3 (ht _ q221)
  obtain ⟨c5, e5, k5⟩ := u_known (C := RX4) (T := TX4) (N := 1) (n := 1) ht inAX4 (ht _ q72)
  obtain ⟨c6, e6, k6⟩ := u_known (C := RX5) (T := TX5) (N := 4) (n := 4) ht inAX5 (ht _ q48)
  obtain ⟨c7, e7, k7⟩ := u_known (C := RX6) (T := TX6) (N := 3) (n := 3) ht inAX6 (ht _ q256)
  obtain ⟨c8, e8, k8⟩ := u_known (C := RX7) (T := TX7) (N := 3) (n := 3) ht inAX7 (ht _ q187)
  obtain ⟨c9, e9, k9⟩ := u_known (C := RX8) (T := TX8) (N := 14) (n := 14) ht inAX8 (ht _ q38)
  obtain ⟨c10, e10, k10⟩ := u_known (C := RX9) (T := TX9) (N := 6) (n := 6) ht inAX9 (ht _ q711)
  refine ⟨(fun j => [c0, c1, c2, c3, c4, c5, c6, c7, c8, c9, c10].getD j c0, fun j => [e0, e1, e2, e3, e4, e5, e6, e7, e8, e9, e10].getD j e0), fun j q hq => ?_⟩
  match j, hq with
  | 0, hq => cases hq; exact k0
  | 1, hq => cases hq; exact k1
  | 2, hq => cases hq; exact k2
  | 3, hq => cases hq; exact k3
  | 4, hq => cases hq; exact k4
  | 5, hq => cases hq; exact k5
  | 6, hq => cases hq; exact k6
  | 7, hq => cases hq; exact k7
  | 8, hq => cases hq; exact k8
  | 9, hq => cases hq; exact k9
  | 10, hq => cases hq; exact k10
  | j + 11, hq => simp [vwCl] at hq
theorem arr_prim {ty : FieldType} (h : (Cond.arrayClass ty).before #[Value.ref b] s = true) : ∃ c : ClassId, ArrOfT s c ty ∧ s.vm.findClass ("[" ++ ty.toString) = some c := by
  obtain ⟨c, k, comp, h1, h2, h3⟩ := Cond.arrayClass_spec (args := #[Value.ref b]) (first := s) (o := none) (s := s) (idx := []) h
  exact ⟨c, fun n z => ⟨(fun j hj => by cases hj), k, h2, comp, h3⟩, h1⟩
theorem arr_obj {C : String} (h : (Cond.arrayOver (.object C)).before #[Value.ref b] s = true) : ∃ c : ClassId, ArrOfT s c (.object C) ∧ va_RA s c (.object C) := by
  obtain ⟨comp, c, k, h1, -, h2, h3, h4⟩ := Cond.arrayOver_spec (args := #[Value.ref b]) (first := s) (o := none) (s := s) (idx := []) h
  exact ⟨c, fun n z => ⟨(fun j hj => by cases hj), k, h2, comp, h3⟩, k, comp, h2, h3, h1, h4⟩
theorem arr_arr {ty : FieldType} (h : (Cond.arrayOver (.array ty)).before #[Value.ref b] s = true) : ∃ c : ClassId, ArrOfT s c (.array ty) ∧ s.vm.findClass ("[" ++ (FieldType.array ty).toString) = some c := by
  obtain ⟨comp, c, k, h1, h2, h3, h4⟩ := Cond.arrayOver_specA (args := #[Value.ref b]) (first := s) (o := none) (s := s) (idx := []) h
  exact ⟨c, fun n z => ⟨(fun j hj => by cases hj), k, h2, comp, h3⟩, h4⟩
theorem lw_arr (hts : ∀ w ∈ lw_tbl, w.before #[Value.ref b] s = true) : ∃ dA : Nat → ClassId, ∀ (j : Nat) (q : ClassId × FieldType), (tysA dA)[j]? = some q → ArrOfT s q.1 q.2 ∧ va_RA s q.1 q.2 := by
  obtain ⟨c0, a0, r0⟩ := arr_prim (ty := .int) (hts _ (lw_all_tbl q70))
  obtain ⟨c3, a3, r3⟩ := arr_obj (C := "ClinkerWorks$Block") (hts _ (by decide +kernel))
  obtain ⟨c4, a4, r4⟩ := arr_obj (C := "ClinkerWorks$Charge") (hts _ (by decide +kernel))
  obtain ⟨c5, a5, r5⟩ := arr_obj (C := "ClinkerWorks$Lot") (hts _ (by decide +kernel))
  obtain ⟨c6, a6, r6⟩ := arr_obj (C := "ClinkerWorks$Silo") (hts _ (by decide +kernel))
  obtain ⟨c9, a9, r9⟩ := arr_arr (ty := .int) (hts _ (by decide +kernel))
  refine ⟨fun j => [c0, c0, c0, c3, c4, c5, c6, c0, c0, c9].getD j c0, fun j q hq => ?_⟩
  match j, hq with
  | 0, hq => cases hq; exact ⟨a0, r0⟩
  | 1, hq => cases hq; exact ⟨a0, r0⟩
  | 2, hq => cases hq; exact ⟨a0, r0⟩
  | 3, hq => cases hq; exact ⟨a3, r3⟩
  | 4, hq => cases hq; exact ⟨a4, r4⟩
  | 5, hq => cases hq; exact ⟨a5, r5⟩
  | 6, hq => cases hq; exact ⟨a6, r6⟩
  | 7, hq => cases hq; exact ⟨a0, r0⟩
  | 8, hq => cases hq; exact ⟨a0, r0⟩
  | 9, hq => cases hq; exact ⟨a9, r9⟩
  | j + 10, hq => simp [tysA] at hq
theorem lw_tb0 (hts : ∀ w ∈ lw_tbl, w.before #[Value.ref b] s = true) (hgv : ∀ w ∈ flatC (Jvm.Cond.and given_1 narrow_1), w.before #[Value.ref b] s = true) : ∃ t : Nat, vTb "ClinkerWorks$Block" "BELIEVED" t 4 (tb4 5 2 1 0) (lwA s) s s.heap := by
  obtain ⟨t, h1, h2⟩ := va_Tof (tm := (Term.static "ClinkerWorks$Block" "BELIEVED" "[I")) (ty := .int) (N := 4) (f := fun j => .int (tb4 5 2 1 0 j)) (A := lwA s) (args := #[Value.ref b]) (s := s) (by decide) (hgv _ (by decide +kernel)) (va_eqt (z := 4) (hgv _ (by decide +kernel))) (fun j hj => by
    rcases (show j = 0 ∨ j = 1 ∨ j = 2 ∨ j = 3 by omega) with rfl | rfl | rfl | rfl
    · exact va_eqt (t := .elem (Term.static "ClinkerWorks$Block" "BELIEVED" "[I") (.int 0)) (z := 5) (hgv _ (by decide +kernel))
    · exact va_eqt (t := .elem (Term.static "ClinkerWorks$Block" "BELIEVED" "[I") (.int 1)) (z := 2) (hgv _ (by decide +kernel))
    · exact va_eqt (t := .elem (Term.static "ClinkerWorks$Block" "BELIEVED" "[I") (.int 2)) (z := 1) (hgv _ (by decide +kernel))
    · exact va_eqt (t := .elem (Term.static "ClinkerWorks$Block" "BELIEVED" "[I") (.int 3)) (z := 0) (hgv _ (by decide +kernel))
    ) lwA_no
  exact ⟨t, va_Zof (hts (.laysStatic "ClinkerWorks$Block" "BELIEVED" "[I") (by decide +kernel)) (hts _ (lw_all_tbl q26)) h1 lwA_no, h2⟩
theorem lw_soft_ok (hts : ∀ w ∈ lw_tbl, w.before #[Value.ref b] s = true) : ∀ w ∈ lw_soft, va_Nw w s := fun w hw => by
  obtain ⟨h1, h2⟩ := List.mem_filter.mp hw
  have h := hts w h1
  cases w <;> first
    | exact va_Nw.of rfl h
    | exact va_Nw.of (by simp only [sfW, Bool.and_eq_true] at h2; exact h2.1) h
theorem lw_aoC_at (hts : ∀ w ∈ lw_tbl, w.before #[Value.ref b] s = true) : ∀ C ∈ lw_aoC, va_AO C s := fun C hC => by
  simp only [lw_aoC, List.mem_cons, List.not_mem_nil, or_false] at hC
  rcases hC with rfl | rfl | rfl | rfl <;> exact va_AO.of (hts _ (by decide +kernel))
theorem str_at {own tx : String} {k : Nat} (h1 : (Cond.stringRef own k tx).before #[Value.ref b] s = true) (h2 : (Cond.exactly (.string own k) "java/lang/String").before #[Value.ref b] s = true) : ∃ sa, vk_R own k tx sa s := by
  obtain ⟨a, c, cell, kk, h3, -⟩ := Cond.exactly_spec (args := #[Value.ref b]) (first := s) (o := none) (s := s) (idx := []) h2
  exact ⟨a, vk_R.of h1 h3⟩
theorem lw_strs_at (hts : ∀ w ∈ lw_tbl, w.before #[Value.ref b] s = true) (hgv : ∀ w ∈ flatC (Jvm.Cond.and given_1 narrow_1), w.before #[Value.ref b] s = true) : ∀ q ∈ lw_strs, ∃ sa, vk_R q.1 q.2.1 q.2.2 sa s := fun q hq => by
  simp only [lw_strs, List.mem_cons, List.not_mem_nil, or_false] at hq
  rcases hq with rfl | rfl | rfl | rfl | rfl | rfl | rfl | rfl <;> exact str_at (hts _ (by decide +kernel)) (hgv _ (by decide +kernel))
theorem scr_T {L : Nat} {xs : Nat → Int32} (h : va_X b L xs s s.heap) (hb : b < s.heap.size) : va_T .int b L (fun j => .int (xs j)) (lwA s) s s.heap := by
  obtain ⟨scr, h1, h2, h3, h4, h5⟩ := h
  exact ⟨scr, h1, h2, h3, Nat.le_of_eq h4.symm, by rw [h4], h5, lwA_no b hb⟩
/-- what is given of the start -/
theorem lw_given {L : Nat} {xs : Nat → Int32} (hts : ∀ w ∈ lw_tbl, w.before #[Value.ref b] s = true) (hg : (Jvm.Cond.and given_1 narrow_1).before #[Value.ref b] s = true) (hX : va_X b L xs s s.heap) (hb : b < s.heap.size) (hL : L ≤ 260) : ∃ G : VG, va_K G.1 vwCl (tysA G.2.1) s ∧ VST G (lwA s) s s.heap ∧ G.2.2 1 = b := by
  have hgv := flat_of_before _ hg
  obtain ⟨D, hD⟩ := lw_cls hts
  obtain ⟨dA, hdA⟩ := lw_arr hts
  obtain ⟨t0, h0⟩ := lw_tb0 hts hgv
  refine ⟨(D, dA, fun j => [t0, b, L].getD j t0), ⟨hD, hdA⟩, ⟨h0, ⟨⟨xs, scr_T hX hb⟩, hL⟩, trivial, trivial, hts (.arrayOver (.array .int)) (by decide +kernel), ?_, ?_, lw_soft_ok hts, fun q hq => absurd hq List.not_mem_nil, lw_aoC_at hts, lw_strs_at hts hgv⟩, rfl⟩
  · exact vx_Zqof (hts (.laysStatic "java/lang/Throwable" "UNASSIGNED_STACK" "[Ljava/lang/StackTraceElement;") (by decide +kernel)) (hts _ (lw_all_tbl q30)) (hgv (.isRef (.static "java/lang/Throwable" "UNASSIGNED_STACK" "[Ljava/lang/StackTraceElement;")) (by decide +kernel)) lwA_no
  · exact vx_Zqof (hts (.laysStatic "java/lang/Throwable" "SUPPRESSED_SENTINEL" "Ljava/util/List;") (by decide +kernel)) (hts _ (lw_all_tbl q30)) (hgv (.isRef (.static "java/lang/Throwable" "SUPPRESSED_SENTINEL" "Ljava/util/List;")) (by decide +kernel)) lwA_no
end VS
set_option maxHeartbeats 4000000 in
set_option maxRecDepth 100000 in
/-- from the entry, the law comes to its end with true -/
theorem whole_start {p : Program} {e : Env} {s : State} {m : MethodId} {below : List Frame} {meth : Method} {c : Code} (l : Launch) (hflags : l.flags = flags0) {b L : Nat} {xs : Nat → Int32} (hL : L ≤ 260) (C0 : lw_At p s m meth c b L xs) : W p l e room_1 s m #[Value.ref b] below meth c s.heap [] 0 0 (lw_Z below #[Value.ref b] s) (entryFrame m ([Value.ref b] : List Value).toArray 22) := by
  obtain ⟨hx, hb, hr, hml, hown, hts, hX, hbl, hlocks, hgv⟩ := C0
  obtain ⟨G, hK, hST, hGb⟩ := lw_given hts hgv hX hbl hL
  have hl0 : l.stackTraces = false := by unfold Launch.stackTraces; rw [hflags]; decide +kernel
  have hC : VC p s m #[Value.ref b] meth c G (lwA s) 22 cL_law "ClinkerWorksLaw" := ⟨hx, hb, hml, hown, fun w hw => hts w (lw_all_tbl hw), hK, fun q h => h, hST, hlocks⟩
  have hEnd : ∀ (kc ns : Nat) (L' : List (Nat × Value)), kc ≤ 853861 → ns ≤ 6540115 → V p l e room_1 s m #[Value.ref b] below meth c (lw_Z below #[Value.ref b] s) G (lwA s) 22 [] kc ns 718 L' [.int 1] := fun kc ns L' h1 h2 H locs ls hP hD hS hl => va_forget (fun q hq => hS.2.2 q hq) (W.widen h1 h2 (lw_ret hx hb hr hlocks dL_law_718))
  have hl := lv_entry ([.ref b]) (n := 22) (Nat.le_of_ble_eq_true rfl)
  rw [lg_entry_eq]
  have hV := law_V (bB := below) (QQ := lw_Z below #[Value.ref b] s) hC hl0 hEnd
  rw [hGb] at hV
  exact hV s.heap [] _ (fun k q h => by simp at h) ⟨fun i j p q h => by simp at h, fun k q h => by simp at h⟩ va_S.rf hl
