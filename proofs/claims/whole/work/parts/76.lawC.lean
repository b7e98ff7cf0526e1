/-! ===== the law: small things ===== -/
theorem lgc_0 (x : Int64) : lg_cmp x x = 0 := by
  unfold lg_cmp
  rw [if_neg (by rw [gt_iff_lt, Int64.lt_iff_toInt_lt]; omega), if_pos rfl]
theorem lgc_e {x y : Int64} (h : x = y) : lg_cmp x y = 0 := by rw [h]; exact lgc_0 y
theorem b01n {q : Prop} [Decidable q] (h : ¬ (if q then (1 : Int32) else 0) = 0) : (if q then (1 : Int32) else 0) = 1 := by
  by_cases e : q
  · rw [if_pos e]
  · rw [if_neg e] at h; exact absurd rfl h
theorem inR_1 {K M w : Nat} (h1 : K ≤ w) (h2 : w ≤ M) (hM : M < 2 ^ 31 := by omega) : inR (nI K) (nI M) (nI w) := ⟨nI_le h1 (by omega), nI_le h2 hM⟩
theorem ixN_0 {M : Nat} {x : Int32} (h : ¬ inR 0 (nI M) x) (hM : M + 1 < 2 ^ 31 := by omega) : ixB x (nI (M + 1)) = 0 := by
  rcases ixB01 (x := x) (n := nI (M + 1)) with e | e
  · exact e
  · obtain ⟨i, hi, rfl⟩ := ixB_of e
    exact absurd (inR_nI (M := M) (by omega)) h
theorem ixN_1 {M : Nat} {x : Int32} (h : inR 0 (nI M) x) (hM : M + 1 < 2 ^ 31 := by omega) : ixB x (nI (M + 1)) = 1 := by
  obtain ⟨w, hw, rfl⟩ := inR_of h
  exact ixB_in (by omega)
theorem ix2_0 {x : Int32} (h : ¬ inR 0 1 x) : ixB x 2 = 0 := ixN_0 (M := 1) h
theorem ix2_1 {x : Int32} (h : inR 0 1 x) : ixB x 2 = 1 := ixN_1 (M := 1) h
theorem ix5_0 {x : Int32} (h : ¬ inR 0 4 x) : ixB x 5 = 0 := ixN_0 (M := 4) h
theorem ix5_1 {x : Int32} (h : inR 0 4 x) : ixB x 5 = 1 := ixN_1 (M := 4) h
theorem row_neg {x : Int32} (h : x < 0) : ¬ inR 0 2147483647 x := fun q => i32_nlt q.1 h
theorem rfN_cong {c : Nat} {e e' : Nat → Nat} (h : ∀ κ, κ < c → e κ = e' κ) : rfN c e = rfN c e' := by
  funext κ
  unfold rfN
  by_cases q : κ < c
  · rw [if_pos q, if_pos q, h κ q]
  · rw [if_neg q, if_neg q]
theorem alP_cong {G : VG} {a b : Nat} {m : Int32} {N c : Nat} {e e' : Nat → Nat} (h : ∀ κ, κ < c → e κ = e' κ) : alP G a b m N c e = alP G a b m N c e' := by
  unfold alP
  rw [rfN_cong h]
theorem refQ_cong {n NC : Nat} {Q : Nat → Nat → Nat} {q : Nat → Nat} {ci : Nat → Nat} (h : ∀ k, k < n → ci k < NC) : refQ n Q ci = refQ n (va_up Q NC q) ci := by
  funext κ
  unfold refQ
  by_cases e : κ < n
  · have := h κ e
    rw [if_pos e, if_pos e, va_up_ne _ _ (show ci κ ≠ NC by omega)]
  · rw [if_neg e, if_neg e]
theorem cmN_le {fd w : Nat} : cmN fd w ≤ fd + 1 := by
  unfold cmN
  split <;> omega
theorem charge_pile {nb n : Nat} {bz : Nat → BV} {bm : Nat → Nat → Int32} {f g : Nat → Int32} {ym : Nat → Nat → Int32} (h : RB nb n bz bm f g ym) {c : Nat} (hc0 : 1 ≤ c) (hc9 : c ≤ 9) (hc1 : c ≤ nsm (pg g) n) {F hh : Nat → Int32} (hF : ∀ j, j < n → F j = nI (cutN (pg g) n c j)) {y : CV} {Fm : Nat → Int32} : (dsF f g F (fun _ => 0) ym n).1 = (cgT f g hh n c y Fm).1 ∧ RB nb (cgT f g hh n c y Fm).1 bz bm (cgT f g hh n c y Fm).2.1 (cgT f g hh n c y Fm).2.2.1 (dsF f g F (fun _ => 0) ym n).2.2 := by
  obtain ⟨h1, h2, -⟩ := RB_charge h (by omega) hc1 hF (h.so hc0 hc9 hc1 (hh := hh)) (w := (chBegin y Fm).2.2) (fun j hj => by rcases (show j = 0 ∨ j = 1 ∨ j = 2 ∨ j = 3 ∨ j = 4 ∨ j = 5 by omega) with rfl | rfl | rfl | rfl | rfl | rfl <;> rfl)
  exact ⟨h1, h2⟩
theorem mxRight_agree {f g : Nat → Int32} (h : ∀ j, j < 4 → f j = g j) : mxRight f = mxRight g := by
  unfold mxRight mxSat mxSil mxAlu mxMelt
  rw [h 0 (by decide), h 1 (by decide), h 2 (by decide), h 3 (by decide)]
theorem bsF_agree {cm cn : Nat → Int32} (h : ∀ j, j < 4 → cm j = cn j) : ∀ k, bsF cm k = bsF cn k
  | 0 => rfl
  | k + 1 => by
    have e : rtM cm k = rtM cn k := mxRight_agree (mxBins_agree h)
    rw [bsF_s, bsF_s, bsF_agree h k, e]
theorem best_same {nb n : Nat} {bz : Nat → BV} {bm : Nat → Nat → Int32} {f g : Nat → Int32} {ym : Nat → Nat → Int32} (h : RB nb n bz bm f g ym) {c : Nat} (hc0 : 1 ≤ c) (hc9 : c ≤ 9) (hc1 : c ≤ nsm (pg g) n) {hh cm : Nat → Int32} {y r : Int32} (hb : bstR (mcF bz f (soAll g hh n c) cm n) y) (hs : bsP (cmM bz f (pg g) n c) r) : y = r := by
  have e := best_eq hb
  have ea : ∀ j, j < 4 → mcF bz f (soAll g hh n c) cm n j = cmM bz f (pg g) n c j := fun j hj => mcF_agree (h.so hc0 hc9 hc1) j hj
  rw [bsF_agree ea] at e
  exact e.symm.trans hs
theorem dgR_y {d : Int64} {t y v fa w : Int32} (h : ¬ t < 3 → y = v) : dgR d t y fa w = dgR d t v fa w := by
  unfold dgR
  by_cases e : t < 3
  · rw [if_pos e, if_pos e]
  · rw [if_neg e, if_neg e, h e]
theorem RLo_top {nl : Nat} {lz : Nat → LV} {li : Nat → Nat} {mz mt : Nat → MV} {lb Nl : Nat} (h : RLo nl lz li mz lb Nl) (hm : ∀ j, j < nl → mt (li j) = mz (li j)) : RLo nl lz li mt lb Nl :=
  ⟨h.n12, h.lk, ⟨fun j hj => by rw [hm j hj]; exact h.lo.1 j hj, h.lo.2⟩, h.sk, h.lg⟩
/-- what the loop's head (or a place within it) owes, whatever the state, where class and model agree -/
def LawK (pP : Program) (l : Launch) (eE : Env) (sS : State) (mM : MethodId) (aA : Array Value) (bB : List Frame) (tT : Method) (cC : Code) (QQ : State → Prop) (G : VG) (AA : Nat → Prop) (scr : Nat) (X : Nat → Nat) (M : Nat → Nat) (B : Nat → Nat → Nat) (T : Nat → Nat → Nat) (Z : Nat → Nat → Nat) (aw : Nat) (al : Nat) (y : Nat) (ce : Nat) (ha : Nat) (wa : Nat) (o : Nat) (bR : Nat → Nat) (yR : Nat → Nat) (rR : Nat → Nat) (t kc ns i pc : Nat) : Prop :=
  ∀ (th : Int32) (of : Nat → Int64) (nb : Nat) (nl : Nat) (du : Int32) (mo : Int32) (cl : Int32) (bz : Nat → BV) (n : Nat) (f : Nat → Int32) (g : Nat → Int32) (h : Nat → Int32) (cm : Nat → Int32) (tm : Nat → Int32) (C : Nat → Nat → Nat) (W : Nat → Nat → Nat) (O : Nat → Nat) (S : KS) (Ct : Nat → Nat → Nat) (Wt : Nat → Nat → Nat) (Ot : Nat → Nat) (St : KS) (lz : Nat → LV) (sz : Nat → SV) (wn : Nat) (ws : Int32) (wf : Nat → Int32) (fd : Nat) (bm : Nat → Nat → Int32) (ym : Nat → Nat → Int32) (Q : Nat → Nat → Nat) (NC : Nat) (mz : Nat → MV) (ci : Nat → Nat) (lb : Nat) (bw : Nat) (mw : Int32) (Nw : Nat) (bl : Nat) (ml : Int32) (Nl : Nat) (li : Nat → Nat) (rm : Nat → Nat → Int32) (ir : Nat → Int32) (sh : Nat → Int32) (wd : Nat → Int32), RB nb n bz bm f g ym → RK t S ci mz NC lb Nw St → RLo nl lz li mz lb Nl → RS nl lz sz rm ir sh → RW wn wf fd wd → fd ≤ t → V pP l eE room_1 sS mM aA bB tT cC QQ G AA 9 [[(o, .inl (G.2.1 2, 1, .inr (.inl (of))))], [(X 0, .inr (9, [.ref (X 1), .int (nI nb), .ref (X 2), .ref (X 6), .ref (X 8), .ref (X 10), .ref (X 14), .ref (X 18), .int (nI nl), .int du, .ref (X 19), .int mo, .ref (X 20), .int cl]))], [(X 1, .inl (G.2.1 3, 6, .inr (.inr (.inr (.inr (refA 6 B))))))], famW 6 (fun ι => bkP G (B ι) (bz ι)), [(X 2, .inr (6, [.int (nI n), .ref (X 3), .ref (X 4), .ref (X 5)]))], [(X 3, .inl (G.2.1 0, 8, .inl f))], [(X 4, .inl (G.2.1 0, 8, .inl g))], [(X 5, .inl (G.2.1 0, 8, .inl h))], [(X 6, .inr (5, [.ref (X 7)]))], [(X 7, .inl (G.2.1 0, 4, .inl cm))], [(X 8, .inr (5, [.ref (X 9)]))], [(X 9, .inl (G.2.1 0, 4, .inl tm))], [(X 10, .inr (3, [.ref (X 11), .ref (X 12), .ref (X 13), .int (nI S.2.1), .ref (O 0), .int (S.1 0), .int (S.1 1), .int (S.1 2), .int (S.1 3), .int (S.1 4), .int (S.1 5), .int (S.1 6)]))], [(X 11, .inl (G.2.1 4, 5, .inr (.inr (.inr (.inr (refA 5 C))))))], [(X 12, .inl (G.2.1 0, 5, .inl S.2.2.2.2.2))], [(X 13, .inl (G.2.1 4, 3, .inr (.inr (.inr (.inr (refA 3 W))))))], famW 5 (fun ι => chP G (C ι) (S.2.2.1 ι)), famW 3 (fun ι => chP G (W ι) (S.2.2.2.1 ι)), chP G O S.2.2.2.2.1, [(X 14, .inr (3, [.ref (X 15), .ref (X 16), .ref (X 17), .int (nI St.2.1), .ref (Ot 0), .int (St.1 0), .int (St.1 1), .int (St.1 2), .int (St.1 3), .int (St.1 4), .int (St.1 5), .int (St.1 6)]))], [(X 15, .inl (G.2.1 4, 5, .inr (.inr (.inr (.inr (refA 5 Ct))))))], [(X 16, .inl (G.2.1 0, 5, .inl St.2.2.2.2.2))], [(X 17, .inl (G.2.1 4, 3, .inr (.inr (.inr (.inr (refA 3 Wt))))))], famW 5 (fun ι => chP G (Ct ι) (St.2.2.1 ι)), famW 3 (fun ι => chP G (Wt ι) (St.2.2.2.1 ι)), chP G Ot St.2.2.2.2.1, [(X 18, .inl (G.2.1 5, 12, .inr (.inr (.inr (.inr (refA 12 T))))))], famW 12 (fun ι => ltP G (T ι) (lz ι)), [(X 19, .inl (G.2.1 6, 2, .inr (.inr (.inr (.inr (refA 2 Z))))))], famW 2 (fun ι => slP G (Z ι) (sz ι)), [(X 20, .inr (8, [.ref (X 21), .int (nI wn), .int ws]))], [(X 21, .inl (G.2.1 0, 6, .inl wf))], [(M 0, .inr (12, [.int th, .ref (M 1), .ref (M 2), .ref aw, .ref al, .ref (M 3), .ref (M 4), .ref (M 5), .ref (M 6), .ref y, .int (nI nb), .int (nI n), .int du, .int mo, .int cl, .int (nI fd), .int ws]))], [(M 1, .inl (G.2.1 9, 6, .inr (.inr (.inr (.inr (rfN 6 bR))))))], famW 6 (fun ι => iaP G (bR ι) 6 (bm ι)), [(M 2, .inl (G.2.1 9, 8, .inr (.inr (.inr (.inr (rfN 8 yR))))))], famW 8 (fun ι => iaP G (yR ι) 2 (ym ι)), [(y, .inr (11, [.ref ce, .ref ha, .ref wa, .int (S.1 0), .int (S.1 1), .int (S.1 3), .int (S.1 2), .int (S.1 4), .int (S.1 5), .int (S.1 6)]))], [(ce, .inl (G.2.1 7, 5, .inr (.inr (.inr (.inr (refQ 5 Q ci))))))], [(ha, .inl (G.2.1 1, 5, .inl (hsF S.2.2.1)))], [(wa, .inl (G.2.1 0, 5, .inl S.2.2.2.2.2))], famW NC (fun ι => mcP G (Q ι) (mz ι)), alP G aw bw mw Nw S.2.1 (fun κ => (Q (NC - S.2.1 + κ)) 0), alP G al bl ml Nl nl (fun κ => (Q (li κ)) 0), [(M 3, .inl (G.2.1 9, 2, .inr (.inr (.inr (.inr (rfN 2 rR))))))], famW 2 (fun ι => iaP G (rR ι) 12 (rm ι)), [(M 4, .inl (G.2.1 0, 2, .inl ir))], [(M 5, .inl (G.2.1 1, 2, .inl sh))], [(M 6, .inl (G.2.1 0, 6, .inl wd))]] kc ns pc [(0, .ref scr), (1, .ref (X 0)), (2, .ref (M 0)), (3, .ref o), (4, .int (nI i))] []
