/-! ===== BEGIN new T[n][m]: the outer array a place, the inner ones among the pooled ===== -/
/-- f, but v at every address of l -/
def vr_up {α : Type} (f : Nat → α) (l : List Nat) (v : α) : Nat → α := fun a => if a ∈ l then v else f a
theorem vr_up_in {α : Type} {f : Nat → α} {l : List Nat} {v : α} {a : Nat} (h : a ∈ l) : vr_up f l v a = v := if_pos h
theorem vr_up_ne {α : Type} {f : Nat → α} {l : List Nat} {v : α} {a : Nat} (h : a ∉ l) : vr_up f l v a = f a := if_neg h
theorem vr_rows {L l : List Nat} {f : Nat → va_E} {e : va_E} (h : ∀ a, a ∈ l → a ∉ L) : va_pl L f ++ l.map (fun a => (a, e)) = va_pl (L ++ l) (vr_up f l e) := by
  unfold va_pl
  rw [List.map_append]
  congr 1
  · apply List.map_congr_left
    intro a ha
    rw [vr_up_ne (fun q => h a q ha)]
  · apply List.map_congr_left
    intro a ha
    rw [vr_up_in ha]
theorem vr_lay {X rows : va_W} {x : Nat × va_E} {pl : va_W} {D : va_G} {cl : List vw_C} {H : Heap} (hP : va_P D cl (((X ++ pl) ++ [x]) ++ rows) H) : va_P D cl ((X ++ [x]) ++ (pl ++ rows)) H := by
  rw [List.append_assoc (X ++ pl)] at hP
  have h := va_P.swap hP
  rw [← List.append_assoc X] at h
  have h2 := va_P.swap h
  rw [List.append_assoc (X ++ [x])] at h2
  exact h2
theorem vr_layD {X rows : va_W} {x : Nat × va_E} {pl : va_W} {A : Nat → Prop} (hD : va_D A (((X ++ pl) ++ [x]) ++ rows)) : va_D A ((X ++ [x]) ++ (pl ++ rows)) := by
  rw [List.append_assoc (X ++ pl)] at hD
  have h := va_D.swap hD
  rw [← List.append_assoc X] at h
  have h2 := va_D.swap h
  rw [List.append_assoc (X ++ [x])] at h2
  exact h2
theorem vr_outer (c : ClassId) (N h0 : Nat) : ∀ i : Nat, Jvm.Free.Multi.outerC c N h0 i = arrV c N (fun j => va_rf (if j < i then some (h0 + 1 + j) else none))
  | 0 => by
    show ({ cls := c, slots := Array.replicate N .null, vm := .none } : Cell) = _
    rw [arrV_new]
    refine congrArg (arrV c N) (funext fun j => ?_)
    simp [va_rf]
  | i + 1 => by
    show (Jvm.Free.Multi.outerC c N h0 i).setSlot i (.ref (h0 + 1 + i)) = _
    rw [vr_outer c N h0 i, arrV_store]
    refine congrArg (arrV c N) (funext fun j => ?_)
    by_cases e : j = i
    · subst e
      simp [updV, va_rf]
    · by_cases h : j < i
      · simp [updV, e, h, Nat.lt_succ_of_lt h]
      · simp [updV, e, h, show ¬ j < i + 1 by omega]
section VGM
variable {p : Program} {l : Launch} {e : Env} {R : Room} {s : State} {m : MethodId} {args : Array Value} {below : List Frame} {meth : Method} {c : Code} {H : Heap} {locs : List Loc} {cells slots : Nat} {Q : State → Prop}
variable {cc : ByteArray} {pc : Nat} {ls : Array Slot} {rest : List Value} {D : va_G} {cl : List vw_C} {A : Nat → Prop} {a : Nat} {tys : List (ClassId × FieldType)} {ws : va_W} {H0 : Heap}
theorem va_mna {X : va_W} {L : List Nat} {f : Nat → va_E} {cc : ByteArray} (hexec : p.tables.exec = Jvm.exec) (hb : c.code = cc) {own : String} {index : Nat} {ty : FieldType} {cy : ClassId} (hown : s.vm.findClass own = some m.cls) (hclink : (Cond.classLink own index ("[" ++ (FieldType.array ty).toString)).before args s = true) (hover : va_AOA ty s) (harr : (Cond.arrayClass ty).before args s = true) (hcy : s.vm.findClass (FieldType.array ty).toString = some cy)
    (hK : va_K D cl tys s) (hP : va_P D cl (X ++ va_pl L f) H) (hD : va_D A (X ++ va_pl L f)) (hS : va_S A H0 H locs) (hA : ∀ q, H0.size ≤ q → A q) {n k : Int32} {N' K' : Nat} {z : vp_A} (hn : ¬ n < 0) (hk : ¬ k < 0) (hN : n.toNatClampNeg = N') (hM : k.toNatClampNeg = K')
    (hb1 : N' * 4 ≤ 536870912) (hb2 : K' * componentBytes ty ≤ 536870912) (hb3 : K' ≤ 536870912) (hdf : fits ty (defaultValue ty) = true) (hdd : (defaultValue ty).isDefault = true) (hcells : cells + (1 + N') ≤ R.cells) (hslots : slots + (N' + N' * K') ≤ R.slots) (hz : ∀ c : ClassId, Jvm.Free.Multi.innerC c K' (defaultValue ty) = vp_cell c z) (hdg : decode cc pc = .ok (.multianewarray index 2, 4))
    (kk : ∀ (q : Nat) (r : Nat → Nat) (cA : ClassId) (H1 : Heap), (∀ i j : Nat, i < N' → j < N' → r i = r j → i = j) → (∀ i : Nat, i < N' → r i ∉ L) → va_K D cl (tys ++ [(cA, .array ty)]) s →
      va_P D cl ((X ++ [(q, .inl (cA, N', .inr (.inr (.inr (.inr (fun i => if i < N' then some (r i) else none))))))]) ++ va_pl (L ++ (List.range N').map r) (vr_up f ((List.range N').map r) (.inl (cy, z)))) H1 → va_D A ((X ++ [(q, .inl (cA, N', .inr (.inr (.inr (.inr (fun i => if i < N' then some (r i) else none))))))]) ++ va_pl (L ++ (List.range N').map r) (vr_up f ((List.range N').map r) (.inl (cy, z)))) → va_S A H0 H1 locs →
      W p l e R s m args below meth c H1 locs (cells + 1 + N') (slots + N' + N' * K') Q (F0 m (pc + 4) ls (.ref q :: rest))) : W p l e R s m args below meth c H locs cells slots Q (F0 m pc ls (.int k :: .int n :: rest)) := by
  subst hN
  subst hM
  intro T hT Xs
  obtain ⟨vm₁, cA, comp, -, fA, fC, hO, -, X', step⟩ := Xs.multianewarray2F hexec hown hclink (va_AOA.use hover) harr (g := F0 m pc ls (.int k :: .int n :: rest)) rfl (by rw [hb]; exact hdg) rfl hn hk hb1 hb2 hb3 hdf hdd hcells hslots
  have ec : some cy = some comp := hcy.symm.trans fC
  cases ec
  generalize hF : Jvm.Free.Multi.fill (T.setVm vm₁) cA cy n.toNatClampNeg k.toNatClampNeg (defaultValue ty) n.toNatClampNeg = F at X' step
  have hTh : (T.setVm vm₁).heap = H := hT
  obtain ⟨f1, f2, -, -⟩ := Jvm.Free.Multi.fill_facts (T.setVm vm₁) cA cy n.toNatClampNeg k.toNatClampNeg (defaultValue ty) n.toNatClampNeg
  rw [hF, hTh] at f1 f2
  have hold : ∀ x : Nat, x < H.size → F.heap[x]? = H[x]? := fun x hx => by
    have := Jvm.Free.Multi.fill_old (T.setVm vm₁) cA cy n.toNatClampNeg k.toNatClampNeg (defaultValue ty) (a := x) (by rw [hTh]; exact hx) n.toNatClampNeg
    rw [hF, hTh] at this
    exact this
  have hrow : ∀ j : Nat, j < n.toNatClampNeg → F.heap[H.size + 1 + j]? = some (vp_cell cy z) := fun j hj => by
    have := Jvm.Free.Multi.fill_inner (T.setVm vm₁) cA cy n.toNatClampNeg k.toNatClampNeg (defaultValue ty) n.toNatClampNeg j hj
    rw [hF, hTh, hz] at this
    exact this
  have hout : Jvm.Free.Multi.outerC cA n.toNatClampNeg H.size n.toNatClampNeg = vp_cell cA (n.toNatClampNeg, .inr (.inr (.inr (.inr (fun i => if i < n.toNatClampNeg then some (H.size + 1 + i) else none))))) := by
    rw [vp_cell_q]
    exact vr_outer cA n.toNatClampNeg H.size n.toNatClampNeg
  rw [hout] at f2
  have hlt : ∀ a, a ∈ L → a < H.size := fun a ha => by
    obtain ⟨k9, hk9⟩ := va_pl_get (X := X) (f := f) ha
    exact (hP k9 _ hk9).lt
  have hnl : ∀ i : Nat, i < n.toNatClampNeg → H.size + 1 + i ∉ L := fun i _ h => by
    have := hlt _ h
    omega
  have hnm : ∀ a, a ∈ (List.range n.toNatClampNeg).map (fun i => H.size + 1 + i) → a ∉ L := fun a ha h => by
    obtain ⟨i, -, rfl⟩ := List.mem_map.mp ha
    have := hlt _ h
    omega
  have hP0 : va_P D cl (X ++ va_pl L f) F.heap := hP.kept (fun k9 x hx => hold x.1 ((hP k9 x hx).lt))
  have hP1 : va_P D cl ((X ++ va_pl L f) ++ [(H.size, .inl (cA, n.toNatClampNeg, .inr (.inr (.inr (.inr (fun i => if i < n.toNatClampNeg then some (H.size + 1 + i) else none))))))]) F.heap := hP0.app (fun k9 x hx => by
    have h0 : k9 < 1 := (List.getElem?_eq_some_iff.mp hx).1
    rw [show k9 = 0 by omega] at hx
    cases hx
    exact f2)
  have hP2 : va_P D cl (((X ++ va_pl L f) ++ [(H.size, .inl (cA, n.toNatClampNeg, .inr (.inr (.inr (.inr (fun i => if i < n.toNatClampNeg then some (H.size + 1 + i) else none))))))]) ++ ((List.range n.toNatClampNeg).map (fun i => H.size + 1 + i)).map (fun a => (a, .inl (cy, z)))) F.heap := hP1.app (fun k9 x hx => by
    obtain ⟨a, ha, rfl⟩ := List.mem_map.mp (List.mem_of_getElem? hx)
    obtain ⟨i, hi, rfl⟩ := List.mem_map.mp ha
    exact hrow i (List.mem_range.mp hi))
  have hD2 : va_D A (((X ++ va_pl L f) ++ [(H.size, .inl (cA, n.toNatClampNeg, .inr (.inr (.inr (.inr (fun i => if i < n.toNatClampNeg then some (H.size + 1 + i) else none))))))]) ++ ((List.range n.toNatClampNeg).map (fun i => H.size + 1 + i)).map (fun a => (a, .inl (cy, z)))) := by
    have hD1 := hD.push (e := .inl (cA, n.toNatClampNeg, .inr (.inr (.inr (.inr (fun i => if i < n.toNatClampNeg then some (H.size + 1 + i) else none)))))) hP rfl (hA _ hS.1)
    generalize hW1 : (X ++ va_pl L f) ++ [(H.size, .inl (cA, n.toNatClampNeg, .inr (.inr (.inr (.inr (fun i => if i < n.toNatClampNeg then some (H.size + 1 + i) else none))))))] = W1 at hD1 hP1 ⊢
    have hle : ∀ (k9 : Nat) (x : Nat × va_E), W1[k9]? = some x → x.1 ≤ H.size := fun k9 x hx => by
      rw [← hW1] at hx
      by_cases hl : k9 < (X ++ va_pl L f).length
      · rw [List.getElem?_append_left hl] at hx
        exact Nat.le_of_lt ((hP k9 x hx).lt)
      · rw [List.getElem?_append_right (by omega)] at hx
        have h0 : k9 - (X ++ va_pl L f).length < 1 := (List.getElem?_eq_some_iff.mp hx).1
        rw [show k9 - (X ++ va_pl L f).length = 0 by omega] at hx
        cases hx
        exact Nat.le_refl _
    have hr : ∀ (k9 : Nat) (x : Nat × va_E), (((List.range n.toNatClampNeg).map (fun i => H.size + 1 + i)).map (fun a => ((a, .inl (cy, z)) : Nat × va_E)))[k9]? = some x → x.1 = H.size + 1 + k9 := fun k9 x hx => by
      rw [List.getElem?_map, List.getElem?_map] at hx
      by_cases h9 : k9 < n.toNatClampNeg
      · rw [List.getElem?_range h9] at hx
        cases hx
        rfl
      · have hn0 : (List.range n.toNatClampNeg)[k9]? = none := List.getElem?_eq_none (by rw [List.length_range]; omega)
        rw [hn0] at hx
        cases hx
    refine ⟨fun i j x y hi hj hxy => ?_, fun k9 x hx => ?_⟩
    · by_cases h1 : i < W1.length <;> by_cases h2 : j < W1.length
      · rw [List.getElem?_append_left h1] at hi
        rw [List.getElem?_append_left h2] at hj
        exact hD1.1 i j x y hi hj hxy
      · rw [List.getElem?_append_left h1] at hi
        rw [List.getElem?_append_right (by omega)] at hj
        have := hle _ _ hi
        have := hr _ _ hj
        omega
      · rw [List.getElem?_append_right (by omega)] at hi
        rw [List.getElem?_append_left h2] at hj
        have := hle _ _ hj
        have := hr _ _ hi
        omega
      · rw [List.getElem?_append_right (by omega)] at hi hj
        have := hr _ _ hi
        have := hr _ _ hj
        omega
    · by_cases h1 : k9 < W1.length
      · rw [List.getElem?_append_left h1] at hx
        exact hD1.2 k9 x hx
      · rw [List.getElem?_append_right (by omega)] at hx
        have := hr _ _ hx
        exact hA _ (by have := hS.1; omega)
  have hAr : ArrOfT s cA (.array ty) := fun N9 z9 => by
    obtain ⟨-, k9, hk9, cm9, hkk9⟩ := (hO 0 0 0).1
    exact ⟨(fun q hq => by cases hq), k9, hk9, cm9, hkk9⟩
  have hK2 : va_K D cl (tys ++ [(cA, .array ty)]) s := ⟨hK.1, fun k9 x hx => by
    by_cases hl : k9 < tys.length
    · rw [List.getElem?_append_left hl] at hx
      exact hK.2 k9 x hx
    · rw [List.getElem?_append_right (by omega)] at hx
      have h0 : k9 - tys.length < 1 := (List.getElem?_eq_some_iff.mp hx).1
      rw [show k9 - tys.length = 0 by omega] at hx
      cases hx
      exact ⟨hAr, fA⟩⟩
  obtain ⟨t, a1, b1⟩ := kk H.size (fun i => H.size + 1 + i) cA F.heap (fun i j _ _ h => by have h9 : H.size + 1 + i = H.size + 1 + j := h; omega) hnl hK2 (by rw [← vr_rows hnm]; exact vr_lay hP2) (by rw [← vr_rows hnm]; exact vr_layD hD2) ⟨by rw [f1]; have := hS.1; omega, fun x h1 h2 => (hold x (Nat.lt_of_lt_of_le h1 hS.1)).trans (hS.2.1 x h1 h2), hS.2.2⟩ F rfl X'
  refine ⟨t, step t ?_, b1⟩
  have e : T.heap.size = H.size := by rw [hT]
  rw [e]
  exact a1
end VGM
/-! ===== END ===== -/
section VGN
variable {p : Program} {l : Launch} {e : Env} {R : Room} {s : State} {m : MethodId} {args : Array Value} {below : List Frame} {meth : Method} {c : Code} {Q : State → Prop} {G : VG} {A : Nat → Prop} {nL : Nat} {cc : ByteArray} {own : String} {ps : List va_W} {k n pc : Nat} {L : List (Nat × Value)} {st rest : List Value}
theorem mna_fam {N K : Nat} {r : Nat → Nat} {f : Nat → va_E} : va_pl ([] ++ (List.range N).map r) (vr_up f ((List.range N).map r) (.inl (G.2.1 0, K, .inl (fun _ => 0)))) = famW N (fun ι => iaP G (r ι) K (fun _ => 0)) := by
  have h1 : ∀ t : List Nat, (t.map (fun ι => iaP G (r ι) K (fun _ => 0))).flatten = t.map (fun ι => (r ι, Sum.inl (G.2.1 0, K, .inl (fun _ => 0)))) := by
    intro t
    induction t with
    | nil => rfl
    | cons x t ih => rw [List.map_cons, List.map_cons, List.flatten_cons, ih]; rfl
  unfold famW va_pl
  rw [h1, List.nil_append, List.map_map]
  apply List.map_congr_left
  intro a ha
  show (r a, vr_up f ((List.range N).map r) _ (r a)) = _
  rw [vr_up_in (List.mem_map.mpr ⟨a, ha, rfl⟩)]
theorem V_mna (C : VC p s m args meth c G A nL cc own) {ix : Nat} {i j : Int32} {N K : Nat} (hcl : Cond.classLink own ix "[[I" ∈ lw_all) (hac : Cond.arrayClass .int ∈ lw_all) (hi : ¬ i < 0) (hj : ¬ j < 0) (hN : i.toNatClampNeg = N) (hM : j.toNatClampNeg = K) (hb1 : N * 4 ≤ 536870912) (hb2 : K * componentBytes .int ≤ 536870912) (hb3 : K ≤ 536870912) (hk : k + (1 + N) ≤ R.cells) (hs : n + (N + N * K) ≤ R.slots) (hdg : decode cc pc = .ok (.multianewarray ix 2, 4))
    (kk : ∀ (q : Nat) (r : Nat → Nat), V p l e R s m args below meth c Q G A nL (ps ++ [[(q, .inl (G.2.1 9, N, .inr (.inr (.inr (.inr (rfN N r))))))], famW N (fun ι => iaP G (r ι) K (fun _ => 0))]) (k + (1 + N)) (n + (N + N * K)) (pc + 4) L (.ref q :: st)) : V p l e R s m args below meth c Q G A nL ps k n pc L (.int j :: .int i :: st) := fun H locs ls hP hD hS hl => by
  have hK0 : s.vm.findClass ("[" ++ FieldType.int.toString) = some (G.2.1 0) := (C.K.2 0 (G.2.1 0, .int) rfl).2
  have hK9 : s.vm.findClass ("[" ++ (FieldType.array .int).toString) = some (G.2.1 9) := (C.K.2 9 (G.2.1 9, .array .int) rfl).2
  have e1 : (FieldType.array .int).toString = "[" ++ FieldType.int.toString := by first | rfl | decide +kernel
  have e2 : "[" ++ (FieldType.array .int).toString = "[[I" := by decide +kernel
  have hX : ps.flatten ++ va_pl [] (fun _ => Sum.inl (G.2.1 0, 0, .inl (fun _ => 0))) = ps.flatten := List.append_nil _
  refine va_mna (X := ps.flatten) (L := []) (f := fun _ => Sum.inl (G.2.1 0, 0, .inl (fun _ => 0))) (ty := .int) (cy := G.2.1 0) (z := (K, .inl (fun _ => 0))) C.1 C.2.1 C.2.2.2.1 (by rw [e2]; exact C.wd hcl) C.sT.2.2.2.2.1.2.2.2 (C.wd hac) (by rw [e1]; exact hK0) C.K (by rw [hX]; exact hP) (by rw [hX]; exact hD) hS C.hA hi hj hN hM hb1 hb2 hb3 rfl rfl hk hs (fun c9 => ?_) hdg (fun q r cA H1 hinj hnl hKA hP1 hD1 hS1 => ?_)
  · show ({ cls := c9, slots := Array.replicate K (defaultValue .int), vm := .none } : Cell) = _
    rw [arrV_new]
    rfl
  · have hA9 : s.vm.findClass ("[" ++ (FieldType.array .int).toString) = some cA := (hKA.2 10 (cA, .array .int) rfl).2
    obtain rfl : G.2.1 9 = cA := Option.some.inj (hK9.symm.trans hA9)
    have hE : (ps ++ [[(q, .inl (G.2.1 9, N, .inr (.inr (.inr (.inr (rfN N r))))))], famW N (fun ι => iaP G (r ι) K (fun _ => 0))]).flatten = (ps.flatten ++ [(q, .inl (G.2.1 9, N, .inr (.inr (.inr (.inr (fun i => if i < N then some (r i) else none))))))]) ++ va_pl ([] ++ (List.range N).map r) (vr_up (fun _ => Sum.inl (G.2.1 0, 0, .inl (fun _ => 0))) ((List.range N).map r) (.inl (G.2.1 0, K, .inl (fun _ => 0)))) := by
      rw [mna_fam, List.flatten_append, List.append_assoc]
      congr 1
      rw [List.flatten_cons, List.flatten_cons, List.flatten_nil, List.append_nil]
      rfl
    rw [Nat.add_assoc k 1 N, Nat.add_assoc n N (N * K)]
    exact kk q r H1 locs ls (by rw [hE]; exact hP1) (by rw [hE]; exact hD1) hS1 hl
end VGN
set_option maxHeartbeats 4000000 in
set_option maxRecDepth 100000 in
/-- ClinkerWorksModel.<init> -/
theorem c_X11_init (l : Launch) (G : VG) (a : Nat) : Mv l G yX11_init cX11_init 1 4 72 48 258 [.ref a] [[(a, .inr (12, [.int 0, .null, .null, .null, .null, .null, .null, .null, .null, .null, .int 0, .int 0, .int 0, .int 0, .int 0, .int 0, .int 0]))]] (fun u => ∃ (M : Nat → Nat) (aw al y ce ha wa : Nat) (bR yR rR : Nat → Nat) (Q : Nat → Nat → Nat), M 0 = a ∧ u = [[(M 0, .inr (12, [.int 0, .ref (M 1), .ref (M 2), .ref aw, .ref al, .ref (M 3), .ref (M 4), .ref (M 5), .ref (M 6), .ref y, .int 0, .int 0, .int 0, .int 0, .int 0, .int 0, .int 6]))], [(M 1, .inl (G.2.1 9, 6, .inr (.inr (.inr (.inr (rfN 6 bR))))))], famW 6 (fun ι => iaP G (bR ι) 6 (fun _ => 0)), [(M 2, .inl (G.2.1 9, 8, .inr (.inr (.inr (.inr (rfN 8 yR))))))], famW 8 (fun ι => iaP G (yR ι) 2 (fun _ => 0)), [(y, .inr (11, [.ref ce, .ref ha, .ref wa, .int 0, .int 0, .int 0, .int 0, .int 0, .int 0, .int 0]))], [(ce, .inl (G.2.1 7, 5, .inr (.inr (.inr (.inr (refQ 5 Q (fun κ => κ)))))))], [(ha, .inl (G.2.1 1, 5, .inl (fun _ => 0)))], [(wa, .inl (G.2.1 0, 5, .inl (fun _ => 0)))], famW 5 (fun ι => mcP G (Q ι) mo0), [(aw, .inr (0, [.int 0, .ref (G.2.2 4), .int 0]))], [(al, .inr (0, [.int 0, .ref (G.2.2 4), .int 0]))], [(M 3, .inl (G.2.1 9, 2, .inr (.inr (.inr (.inr (rfN 2 rR))))))], famW 2 (fun ι => iaP G (rR ι) 12 (fun _ => 0)), [(M 4, .inl (G.2.1 0, 2, .inl (fun _ => 0)))], [(M 5, .inl (G.2.1 1, 2, .inl (fun _ => 0)))], [(M 6, .inl (G.2.1 0, 6, .inl (fun _ => 0)))]]) := by
  refine Mv_of (by decide) (Nat.le_of_ble_eq_true rfl) (fun pP eE sS mM aA bB tT cC AA QQ hC hr hnm hQ => ?_)
  refine V_aload_n hC dX11_init_0 0 rfl ?_
  refine V_objInit hC q944 q76 q77 dX11_init_1 (by decide) (Nat.le_of_ble_eq_true rfl) ?_
  refine V_aload_n hC dX11_init_4 0 rfl ?_
  refine V_bipush hC dX11_init_5 (v := 6) (by decide) ?_
  refine V_bipush hC dX11_init_7 (v := 6) (by decide) ?_
  refine V_mna hC q945 q103 (N := 6) (K := 6) (by decide) (by decide) (by decide) (by decide) (by decide) (by decide) (by decide) (by decide) (by decide) dX11_init_9 (fun q1 rq1 => ?_)
  refine V_putF hC dX11_init_13 inAX11 tyX11 tyX11_ok nmX11 0 0 rfl rfl rfl 1 (by decide) q1079 rfl rfl hnm rfl (rfl) (rfl) (Nat.le_of_ble_eq_true rfl) (ps' := [[(a, .inr (12, [.int 0, .ref q1, .null, .null, .null, .null, .null, .null, .null, .null, .int 0, .int 0, .int 0, .int 0, .int 0, .int 0, .int 0]))], [(q1, .inl (G.2.1 9, 6, .inr (.inr (.inr (.inr (rfN 6 rq1))))))], famW 6 (fun ι => iaP G (rq1 ι) 6 (fun _ => 0))]) rfl ?_
  refine V_aload_n hC dX11_init_16 0 rfl ?_
  refine V_bipush hC dX11_init_17 (v := 8) (by decide) ?_
  refine V_iconst hC dX11_init_19 (v := 2) (by decide) ?_
  refine V_mna hC q945 q103 (N := 8) (K := 2) (by decide) (by decide) (by decide) (by decide) (by decide) (by decide) (by decide) (by decide) (by decide) dX11_init_20 (fun q2 rq2 => ?_)
  refine V_putF hC dX11_init_24 inAX11 tyX11 tyX11_ok nmX11 0 0 rfl rfl rfl 2 (by decide) q1080 rfl rfl hnm rfl (rfl) (rfl) (Nat.le_of_ble_eq_true rfl) (ps' := [[(a, .inr (12, [.int 0, .ref q1, .ref q2, .null, .null, .null, .null, .null, .null, .null, .int 0, .int 0, .int 0, .int 0, .int 0, .int 0, .int 0]))], [(q1, .inl (G.2.1 9, 6, .inr (.inr (.inr (.inr (rfN 6 rq1))))))], famW 6 (fun ι => iaP G (rq1 ι) 6 (fun _ => 0)), [(q2, .inl (G.2.1 9, 8, .inr (.inr (.inr (.inr (rfN 8 rq2))))))], famW 8 (fun ι => iaP G (rq2 ι) 2 (fun _ => 0))]) rfl ?_
  refine V_aload_n hC dX11_init_27 0 rfl ?_
  refine V_new hC inAJx4a65c tyJx4a65c tyJx4a65c_ok (ci := 0) rfl q947 q948 q55 (fs := [.int 0, .null, .int 0]) (by decide +kernel) (by decide) (by decide) dX11_init_28 (fun q3 => ?_)
  refine V_dup hC dX11_init_31 rfl ?_
  refine V_callv hC (V_runI hC (rest := [.ref q3, .ref a]) [] (c_Jx4a65c_init_da8c8 l G q3) [5] rfl (by decide) q949 q950 q55 q951 rfl ⟨by decide, by decide, rfl⟩ ⟨by decide, by decide⟩ rfl (Nat.le_of_ble_eq_true rfl) ⟨by decide, by decide⟩ dX11_init_32) (is := [5]) rfl [0, 1, 2, 3, 4] (rs := [[(a, .inr (12, [.int 0, .ref q1, .ref q2, .null, .null, .null, .null, .null, .null, .null, .int 0, .int 0, .int 0, .int 0, .int 0, .int 0, .int 0]))], [(q1, .inl (G.2.1 9, 6, .inr (.inr (.inr (.inr (rfN 6 rq1))))))], famW 6 (fun ι => iaP G (rq1 ι) 6 (fun _ => 0)), [(q2, .inl (G.2.1 9, 8, .inr (.inr (.inr (.inr (rfN 8 rq2))))))], famW 8 (fun ι => iaP G (rq2 ι) 2 (fun _ => 0))]) rfl (by decide) (by decide) ?_
  rintro _ rfl
  refine V_putF hC dX11_init_35 inAX11 tyX11 tyX11_ok nmX11 1 0 rfl rfl rfl 3 (by decide) q1081 rfl rfl hnm rfl (rfl) (rfl) (Nat.le_of_ble_eq_true rfl) (ps' := [[(q3, .inr (0, [.int 0, .ref (G.2.2 4), .int 0]))], [(a, .inr (12, [.int 0, .ref q1, .ref q2, .ref q3, .null, .null, .null, .null, .null, .null, .int 0, .int 0, .int 0, .int 0, .int 0, .int 0, .int 0]))], [(q1, .inl (G.2.1 9, 6, .inr (.inr (.inr (.inr (rfN 6 rq1))))))], famW 6 (fun ι => iaP G (rq1 ι) 6 (fun _ => 0)), [(q2, .inl (G.2.1 9, 8, .inr (.inr (.inr (.inr (rfN 8 rq2))))))], famW 8 (fun ι => iaP G (rq2 ι) 2 (fun _ => 0))]) rfl ?_
  refine V_aload_n hC dX11_init_38 0 rfl ?_
  refine V_new hC inAJx4a65c tyJx4a65c tyJx4a65c_ok (ci := 0) rfl q947 q948 q55 (fs := [.int 0, .null, .int 0]) (by decide +kernel) (by decide) (by decide) dX11_init_39 (fun q4 => ?_)
  refine V_dup hC dX11_init_42 rfl ?_
  refine V_callv hC (V_runI hC (rest := [.ref q4, .ref a]) [] (c_Jx4a65c_init_da8c8 l G q4) [6] rfl (by decide) q949 q950 q55 q951 rfl ⟨by decide, by decide, rfl⟩ ⟨by decide, by decide⟩ rfl (Nat.le_of_ble_eq_true rfl) ⟨by decide, by decide⟩ dX11_init_43) (is := [6]) rfl [0, 1, 2, 3, 4, 5] (rs := [[(q3, .inr (0, [.int 0, .ref (G.2.2 4), .int 0]))], [(a, .inr (12, [.int 0, .ref q1, .ref q2, .ref q3, .null, .null, .null, .null, .null, .null, .int 0, .int 0, .int 0, .int 0, .int 0, .int 0, .int 0]))], [(q1, .inl (G.2.1 9, 6, .inr (.inr (.inr (.inr (rfN 6 rq1))))))], famW 6 (fun ι => iaP G (rq1 ι) 6 (fun _ => 0)), [(q2, .inl (G.2.1 9, 8, .inr (.inr (.inr (.inr (rfN 8 rq2))))))], famW 8 (fun ι => iaP G (rq2 ι) 2 (fun _ => 0))]) rfl (by decide) (by decide) ?_
  rintro _ rfl
  refine V_putF hC dX11_init_46 inAX11 tyX11 tyX11_ok nmX11 2 0 rfl rfl rfl 4 (by decide) q1082 rfl rfl hnm rfl (rfl) (rfl) (Nat.le_of_ble_eq_true rfl) (ps' := [[(q4, .inr (0, [.int 0, .ref (G.2.2 4), .int 0]))], [(q3, .inr (0, [.int 0, .ref (G.2.2 4), .int 0]))], [(a, .inr (12, [.int 0, .ref q1, .ref q2, .ref q3, .ref q4, .null, .null, .null, .null, .null, .int 0, .int 0, .int 0, .int 0, .int 0, .int 0, .int 0]))], [(q1, .inl (G.2.1 9, 6, .inr (.inr (.inr (.inr (rfN 6 rq1))))))], famW 6 (fun ι => iaP G (rq1 ι) 6 (fun _ => 0)), [(q2, .inl (G.2.1 9, 8, .inr (.inr (.inr (.inr (rfN 8 rq2))))))], famW 8 (fun ι => iaP G (rq2 ι) 2 (fun _ => 0))]) rfl ?_
  refine V_aload_n hC dX11_init_49 0 rfl ?_
  refine V_iconst hC dX11_init_50 (v := 2) (by decide) ?_
  refine V_bipush hC dX11_init_51 (v := 12) (by decide) ?_
  refine V_mna hC q945 q103 (N := 2) (K := 12) (by decide) (by decide) (by decide) (by decide) (by decide) (by decide) (by decide) (by decide) (by decide) dX11_init_53 (fun q5 rq5 => ?_)
  refine V_putF hC dX11_init_57 inAX11 tyX11 tyX11_ok nmX11 2 0 rfl rfl rfl 5 (by decide) q1083 rfl rfl hnm rfl (rfl) (rfl) (Nat.le_of_ble_eq_true rfl) (ps' := [[(q4, .inr (0, [.int 0, .ref (G.2.2 4), .int 0]))], [(q3, .inr (0, [.int 0, .ref (G.2.2 4), .int 0]))], [(a, .inr (12, [.int 0, .ref q1, .ref q2, .ref q3, .ref q4, .ref q5, .null, .null, .null, .null, .int 0, .int 0, .int 0, .int 0, .int 0, .int 0, .int 0]))], [(q1, .inl (G.2.1 9, 6, .inr (.inr (.inr (.inr (rfN 6 rq1))))))], famW 6 (fun ι => iaP G (rq1 ι) 6 (fun _ => 0)), [(q2, .inl (G.2.1 9, 8, .inr (.inr (.inr (.inr (rfN 8 rq2))))))], famW 8 (fun ι => iaP G (rq2 ι) 2 (fun _ => 0)), [(q5, .inl (G.2.1 9, 2, .inr (.inr (.inr (.inr (rfN 2 rq5))))))], famW 2 (fun ι => iaP G (rq5 ι) 12 (fun _ => 0))]) rfl ?_
  refine V_aload_n hC dX11_init_60 0 rfl ?_
  refine V_iconst hC dX11_init_61 (v := 2) (by decide) ?_
  refine V_newa_i hC q103 (N := 2) (by decide) (by decide) (by decide) (by decide) (by decide) dX11_init_62 (fun q6 => ?_)
  refine V_putF hC dX11_init_64 inAX11 tyX11 tyX11_ok nmX11 2 0 rfl rfl rfl 6 (by decide) q1084 rfl rfl hnm rfl (rfl) (rfl) (Nat.le_of_ble_eq_true rfl) (ps' := [[(q4, .inr (0, [.int 0, .ref (G.2.2 4), .int 0]))], [(q3, .inr (0, [.int 0, .ref (G.2.2 4), .int 0]))], [(a, .inr (12, [.int 0, .ref q1, .ref q2, .ref q3, .ref q4, .ref q5, .ref q6, .null, .null, .null, .int 0, .int 0, .int 0, .int 0, .int 0, .int 0, .int 0]))], [(q1, .inl (G.2.1 9, 6, .inr (.inr (.inr (.inr (rfN 6 rq1))))))], famW 6 (fun ι => iaP G (rq1 ι) 6 (fun _ => 0)), [(q2, .inl (G.2.1 9, 8, .inr (.inr (.inr (.inr (rfN 8 rq2))))))], famW 8 (fun ι => iaP G (rq2 ι) 2 (fun _ => 0)), [(q5, .inl (G.2.1 9, 2, .inr (.inr (.inr (.inr (rfN 2 rq5))))))], famW 2 (fun ι => iaP G (rq5 ι) 12 (fun _ => 0)), [(q6, .inl (G.2.1 0, 2, .inl (fun _ => 0)))]]) rfl ?_
  refine V_aload_n hC dX11_init_67 0 rfl ?_
  refine V_iconst hC dX11_init_68 (v := 2) (by decide) ?_
  refine V_newa_z hC q1036 (N := 2) (by decide) (by decide) (by decide) (by decide) (by decide) dX11_init_69 (fun q7 => ?_)
  refine V_putF hC dX11_init_71 inAX11 tyX11 tyX11_ok nmX11 2 0 rfl rfl rfl 7 (by decide) q1085 rfl rfl hnm rfl (rfl) (rfl) (Nat.le_of_ble_eq_true rfl) (ps' := [[(q4, .inr (0, [.int 0, .ref (G.2.2 4), .int 0]))], [(q3, .inr (0, [.int 0, .ref (G.2.2 4), .int 0]))], [(a, .inr (12, [.int 0, .ref q1, .ref q2, .ref q3, .ref q4, .ref q5, .ref q6, .ref q7, .null, .null, .int 0, .int 0, .int 0, .int 0, .int 0, .int 0, .int 0]))], [(q1, .inl (G.2.1 9, 6, .inr (.inr (.inr (.inr (rfN 6 rq1))))))], famW 6 (fun ι => iaP G (rq1 ι) 6 (fun _ => 0)), [(q2, .inl (G.2.1 9, 8, .inr (.inr (.inr (.inr (rfN 8 rq2))))))], famW 8 (fun ι => iaP G (rq2 ι) 2 (fun _ => 0)), [(q5, .inl (G.2.1 9, 2, .inr (.inr (.inr (.inr (rfN 2 rq5))))))], famW 2 (fun ι => iaP G (rq5 ι) 12 (fun _ => 0)), [(q6, .inl (G.2.1 0, 2, .inl (fun _ => 0)))], [(q7, .inl (G.2.1 1, 2, .inl (fun _ => 0)))]]) rfl ?_
  refine V_aload_n hC dX11_init_74 0 rfl ?_
  refine V_bipush hC dX11_init_75 (v := 6) (by decide) ?_
  refine V_newa_i hC q103 (N := 6) (by decide) (by decide) (by decide) (by decide) (by decide) dX11_init_77 (fun q8 => ?_)
  refine V_putF hC dX11_init_79 inAX11 tyX11 tyX11_ok nmX11 2 0 rfl rfl rfl 8 (by decide) q1086 rfl rfl hnm rfl (rfl) (rfl) (Nat.le_of_ble_eq_true rfl) (ps' := [[(q4, .inr (0, [.int 0, .ref (G.2.2 4), .int 0]))], [(q3, .inr (0, [.int 0, .ref (G.2.2 4), .int 0]))], [(a, .inr (12, [.int 0, .ref q1, .ref q2, .ref q3, .ref q4, .ref q5, .ref q6, .ref q7, .ref q8, .null, .int 0, .int 0, .int 0, .int 0, .int 0, .int 0, .int 0]))], [(q1, .inl (G.2.1 9, 6, .inr (.inr (.inr (.inr (rfN 6 rq1))))))], famW 6 (fun ι => iaP G (rq1 ι) 6 (fun _ => 0)), [(q2, .inl (G.2.1 9, 8, .inr (.inr (.inr (.inr (rfN 8 rq2))))))], famW 8 (fun ι => iaP G (rq2 ι) 2 (fun _ => 0)), [(q5, .inl (G.2.1 9, 2, .inr (.inr (.inr (.inr (rfN 2 rq5))))))], famW 2 (fun ι => iaP G (rq5 ι) 12 (fun _ => 0)), [(q6, .inl (G.2.1 0, 2, .inl (fun _ => 0)))], [(q7, .inl (G.2.1 1, 2, .inl (fun _ => 0)))], [(q8, .inl (G.2.1 0, 6, .inl (fun _ => 0)))]]) rfl ?_
  refine V_aload_n hC dX11_init_82 0 rfl ?_
  refine V_new hC inAX10 tyX10 tyX10_ok (ci := 11) rfl q973 q974 q56 (fs := [.null, .null, .null, .int 0, .int 0, .int 0, .int 0, .int 0, .int 0, .int 0]) (by decide +kernel) (by decide) (by decide) dX11_init_83 (fun q9 => ?_)
  refine V_dup hC dX11_init_86 rfl ?_
  refine V_callv hC (V_runI hC (rest := [.ref q9, .ref a]) [] (c_X10_init l G q9) [12] rfl (by decide) q975 q976 q56 q977 rfl ⟨by decide, by decide, rfl⟩ ⟨by decide, by decide⟩ rfl (Nat.le_of_ble_eq_true rfl) ⟨by decide, by decide⟩ dX11_init_87) (is := [12]) rfl [0, 1, 2, 3, 4, 5, 6, 7, 8, 9, 10, 11] (rs := [[(q4, .inr (0, [.int 0, .ref (G.2.2 4), .int 0]))], [(q3, .inr (0, [.int 0, .ref (G.2.2 4), .int 0]))], [(a, .inr (12, [.int 0, .ref q1, .ref q2, .ref q3, .ref q4, .ref q5, .ref q6, .ref q7, .ref q8, .null, .int 0, .int 0, .int 0, .int 0, .int 0, .int 0, .int 0]))], [(q1, .inl (G.2.1 9, 6, .inr (.inr (.inr (.inr (rfN 6 rq1))))))], famW 6 (fun ι => iaP G (rq1 ι) 6 (fun _ => 0)), [(q2, .inl (G.2.1 9, 8, .inr (.inr (.inr (.inr (rfN 8 rq2))))))], famW 8 (fun ι => iaP G (rq2 ι) 2 (fun _ => 0)), [(q5, .inl (G.2.1 9, 2, .inr (.inr (.inr (.inr (rfN 2 rq5))))))], famW 2 (fun ι => iaP G (rq5 ι) 12 (fun _ => 0)), [(q6, .inl (G.2.1 0, 2, .inl (fun _ => 0)))], [(q7, .inl (G.2.1 1, 2, .inl (fun _ => 0)))], [(q8, .inl (G.2.1 0, 6, .inl (fun _ => 0)))]]) rfl (by decide) (by decide) ?_
  rintro _ ⟨ce10, ha10, wa10, Q10, rfl⟩
  refine V_putF hC dX11_init_90 inAX11 tyX11 tyX11_ok nmX11 7 0 rfl rfl rfl 9 (by decide) q1087 rfl rfl hnm rfl (rfl) (rfl) (Nat.le_of_ble_eq_true rfl) (ps' := [[(q9, .inr (11, [.ref ce10, .ref ha10, .ref wa10, .int 0, .int 0, .int 0, .int 0, .int 0, .int 0, .int 0]))], [(ce10, .inl (G.2.1 7, 5, .inr (.inr (.inr (.inr (refQ 5 Q10 (fun κ => κ)))))))], [(ha10, .inl (G.2.1 1, 5, .inl (fun _ => 0)))], [(wa10, .inl (G.2.1 0, 5, .inl (fun _ => 0)))], famW 5 (fun ι => mcP G (Q10 ι) mo0), [(q4, .inr (0, [.int 0, .ref (G.2.2 4), .int 0]))], [(q3, .inr (0, [.int 0, .ref (G.2.2 4), .int 0]))], [(a, .inr (12, [.int 0, .ref q1, .ref q2, .ref q3, .ref q4, .ref q5, .ref q6, .ref q7, .ref q8, .ref q9, .int 0, .int 0, .int 0, .int 0, .int 0, .int 0, .int 0]))], [(q1, .inl (G.2.1 9, 6, .inr (.inr (.inr (.inr (rfN 6 rq1))))))], famW 6 (fun ι => iaP G (rq1 ι) 6 (fun _ => 0)), [(q2, .inl (G.2.1 9, 8, .inr (.inr (.inr (.inr (rfN 8 rq2))))))], famW 8 (fun ι => iaP G (rq2 ι) 2 (fun _ => 0)), [(q5, .inl (G.2.1 9, 2, .inr (.inr (.inr (.inr (rfN 2 rq5))))))], famW 2 (fun ι => iaP G (rq5 ι) 12 (fun _ => 0)), [(q6, .inl (G.2.1 0, 2, .inl (fun _ => 0)))], [(q7, .inl (G.2.1 1, 2, .inl (fun _ => 0)))], [(q8, .inl (G.2.1 0, 6, .inl (fun _ => 0)))]]) rfl ?_
  refine V_aload_n hC dX11_init_93 0 rfl ?_
  refine V_bipush hC dX11_init_94 (v := 6) (by decide) ?_
  refine V_put hC dX11_init_96 inAX11 tyX11 tyX11_ok nmX11 7 0 rfl rfl rfl 16 (by decide) q1094 rfl rfl (rfl) (rfl) (Nat.le_of_ble_eq_true rfl) (ps' := [[(q9, .inr (11, [.ref ce10, .ref ha10, .ref wa10, .int 0, .int 0, .int 0, .int 0, .int 0, .int 0, .int 0]))], [(ce10, .inl (G.2.1 7, 5, .inr (.inr (.inr (.inr (refQ 5 Q10 (fun κ => κ)))))))], [(ha10, .inl (G.2.1 1, 5, .inl (fun _ => 0)))], [(wa10, .inl (G.2.1 0, 5, .inl (fun _ => 0)))], famW 5 (fun ι => mcP G (Q10 ι) mo0), [(q4, .inr (0, [.int 0, .ref (G.2.2 4), .int 0]))], [(q3, .inr (0, [.int 0, .ref (G.2.2 4), .int 0]))], [(a, .inr (12, [.int 0, .ref q1, .ref q2, .ref q3, .ref q4, .ref q5, .ref q6, .ref q7, .ref q8, .ref q9, .int 0, .int 0, .int 0, .int 0, .int 0, .int 0, .int 6]))], [(q1, .inl (G.2.1 9, 6, .inr (.inr (.inr (.inr (rfN 6 rq1))))))], famW 6 (fun ι => iaP G (rq1 ι) 6 (fun _ => 0)), [(q2, .inl (G.2.1 9, 8, .inr (.inr (.inr (.inr (rfN 8 rq2))))))], famW 8 (fun ι => iaP G (rq2 ι) 2 (fun _ => 0)), [(q5, .inl (G.2.1 9, 2, .inr (.inr (.inr (.inr (rfN 2 rq5))))))], famW 2 (fun ι => iaP G (rq5 ι) 12 (fun _ => 0)), [(q6, .inl (G.2.1 0, 2, .inl (fun _ => 0)))], [(q7, .inl (G.2.1 1, 2, .inl (fun _ => 0)))], [(q8, .inl (G.2.1 0, 6, .inl (fun _ => 0)))]]) rfl ?_
  exact V_vret hC hQ hr [7, 8, 9, 10, 11, 0, 1, 2, 3, 4, 6, 5, 12, 13, 14, 15, 16] (u := [[(a, .inr (12, [.int 0, .ref q1, .ref q2, .ref q3, .ref q4, .ref q5, .ref q6, .ref q7, .ref q8, .ref q9, .int 0, .int 0, .int 0, .int 0, .int 0, .int 0, .int 6]))], [(q1, .inl (G.2.1 9, 6, .inr (.inr (.inr (.inr (rfN 6 rq1))))))], famW 6 (fun ι => iaP G (rq1 ι) 6 (fun _ => 0)), [(q2, .inl (G.2.1 9, 8, .inr (.inr (.inr (.inr (rfN 8 rq2))))))], famW 8 (fun ι => iaP G (rq2 ι) 2 (fun _ => 0)), [(q9, .inr (11, [.ref ce10, .ref ha10, .ref wa10, .int 0, .int 0, .int 0, .int 0, .int 0, .int 0, .int 0]))], [(ce10, .inl (G.2.1 7, 5, .inr (.inr (.inr (.inr (refQ 5 Q10 (fun κ => κ)))))))], [(ha10, .inl (G.2.1 1, 5, .inl (fun _ => 0)))], [(wa10, .inl (G.2.1 0, 5, .inl (fun _ => 0)))], famW 5 (fun ι => mcP G (Q10 ι) mo0), [(q3, .inr (0, [.int 0, .ref (G.2.2 4), .int 0]))], [(q4, .inr (0, [.int 0, .ref (G.2.2 4), .int 0]))], [(q5, .inl (G.2.1 9, 2, .inr (.inr (.inr (.inr (rfN 2 rq5))))))], famW 2 (fun ι => iaP G (rq5 ι) 12 (fun _ => 0)), [(q6, .inl (G.2.1 0, 2, .inl (fun _ => 0)))], [(q7, .inl (G.2.1 1, 2, .inl (fun _ => 0)))], [(q8, .inl (G.2.1 0, 6, .inl (fun _ => 0)))]]) (by decide) rfl (by decide) (by decide) dX11_init_99 (⟨fXl [a, q1, q2, q5, q6, q7, q8], q3, q4, q9, ce10, ha10, wa10, rq1, rq2, rq5, Q10, rfl, rfl⟩)
