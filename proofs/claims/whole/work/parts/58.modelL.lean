/-! ===== the model: grinding, cubes ===== -/
def mvG (z : MV) (x y s : Int32) : MV := (hv9 (z.1 0) (z.1 1) (z.1 2) (z.1 3) (z.1 4) x y s (moAll z.2.1), z.2)
def mvC (z : MV) (w : Nat) : MV := (z.1, z.2.1, z.2.2.1, upd z.2.2.2 w (moStr z (nI w)))
theorem mcP_hv {G : VG} {q : Nat → Nat} {z : MV} {f : Nat → Int32} : mcP G q (hv9 (z.1 0) (z.1 1) (z.1 2) (z.1 3) (z.1 4) (z.1 5) (z.1 6) (z.1 7) (z.1 8), z.2.1, z.2.2.1, f) = mcP G q (z.1, z.2.1, z.2.2.1, f) := rfl
def cbM (wd : Nat → Int32) (ws : Int32) (fd : Nat) (r : Int32) : Int32 := cfI (upd wd (fd % 6) r) (ws - 4) (if sm (upd wd (fd % 6) r) (wnM (fd + 1)) < ws * nI (wnM (fd + 1)) then 0 else 1) (wnM (fd + 1))
def cmD (wd : Nat → Int32) (fd w : Nat) (r : Int32) : Nat → Int32 := match w with
  | 2 => upd wd (fd % 6) r
  | _ => wd
def cmN (fd w : Nat) : Nat := match w with
  | 2 => fd + 1
  | _ => fd
def cmC (wd : Nat → Int32) (ws : Int32) (fd w : Nat) (r cl : Int32) : Int32 := match w with
  | 2 => if cbM wd ws fd r = 0 then cl + 1 else cl
  | _ => cl
def cmS (wd : Nat → Int32) (ws : Int32) (fd w : Nat) (r sa : Int32) (j : Nat) (sh : Nat → Int32) : Nat → Int32 := match w with
  | 2 => if cbM wd ws fd r = 0 then upd sh j (sh j ||| (if sa ≤ 0 then 0 else 1)) else sh
  | _ => sh
theorem or01 {x y : Int32} (hx : x = 0 ∨ x = 1) (hy : y = 0 ∨ y = 1) : x ||| y = 0 ∨ x ||| y = 1 := by
  rcases hx with rfl | rfl <;> rcases hy with rfl | rfl <;> decide
theorem moGr_y {z : MV} (h : ¬ moGr z = 0) : ¬ z.1 7 = -1 := fun e => h (if_pos e)
theorem moGr_n {z : MV} (h : moGr z = 0) : z.1 7 = -1 := by
  unfold moGr at h
  split at h
  · assumption
  · exact absurd h (by decide)
set_option maxHeartbeats 4000000 in
set_option maxRecDepth 100000 in
/-- ClinkerWorksModel.grind -/
theorem c_X11_grind (l : Launch) (G : VG) (M : Nat → Nat) (th du mny cl ws : Int32) (nb ny fd aw al y : Nat) (rR : Nat → Nat) (rm : Nat → Nat → Int32) (ir : Nat → Int32) (cn : Nat → Nat) (Q : Nat → Nat → Nat) (NC : Nat) (mz : Nat → MV) (bl : Nat) (ml : Int32) (Nl nl : Nat) (li : Nat → Nat) (b x w9 s : Int32) (hnl : nl ≤ 12) (hlk : alOk Nl nl) (hli : ∀ j, j < nl → li j < NC) (hir : ∀ j, j < 2 → ir j = nI (cn j)) (hcn : ∀ i, i < nl → (mz (li i)).1 7 = -1 → ∀ j, j < 2 → cn j < 12) : Mi l G yX11_grind cX11_grind 6 .int 3 64 0 0 [.ref (M 0), .int b, .int x, .int w9, .int s] [[(M 0, .inr (12, [.int th, .ref (M 1), .ref (M 2), .ref aw, .ref al, .ref (M 3), .ref (M 4), .ref (M 5), .ref (M 6), .ref y, .int (nI nb), .int (nI ny), .int du, .int mny, .int cl, .int (nI fd), .int ws]))], [(M 3, .inl (G.2.1 9, 2, .inr (.inr (.inr (.inr (rfN 2 rR))))))], famW 2 (fun ι => iaP G (rR ι) 12 (rm ι)), [(M 4, .inl (G.2.1 0, 2, .inl ir))], famW NC (fun ι => mcP G (Q ι) (mz ι)), alP G al bl ml Nl nl (fun κ => (Q (li κ)) 0)] (fun r v => (∃ tt : Int32, ((tt = 1 ∧ ¬ (ixB b (nI nl) = 1 ∧ inR 0 1 s)) ∨ (tt = 2 ∧ (ixB b (nI nl) = 1 ∧ inR 0 1 s) ∧ ¬ (inR 1 9 x ∧ inR 0 9 w9)) ∨ (tt = 3 ∧ (ixB b (nI nl) = 1 ∧ inR 0 1 s) ∧ (inR 1 9 x ∧ inR 0 9 w9) ∧ ¬ (mz (li b.toNatClampNeg)).1 7 = -1)) ∧ r = 0 ∧ v = [[(M 0, .inr (12, [.int tt, .ref (M 1), .ref (M 2), .ref aw, .ref al, .ref (M 3), .ref (M 4), .ref (M 5), .ref (M 6), .ref y, .int (nI nb), .int (nI ny), .int du, .int mny, .int cl, .int (nI fd), .int ws]))], [(M 3, .inl (G.2.1 9, 2, .inr (.inr (.inr (.inr (rfN 2 rR))))))], famW 2 (fun ι => iaP G (rR ι) 12 (rm ι)), [(M 4, .inl (G.2.1 0, 2, .inl ir))], famW NC (fun ι => mcP G (Q ι) (mz ι)), alP G al bl ml Nl nl (fun κ => (Q (li κ)) 0)]) ∨ (∃ i j : Nat, i < nl ∧ b = nI i ∧ j < 2 ∧ s = nI j ∧ inR 1 9 x ∧ inR 0 9 w9 ∧ (mz (li i)).1 7 = -1 ∧ r = moAll (mz (li i)).2.1 ∧ v = [[(M 0, .inr (12, [.int 0, .ref (M 1), .ref (M 2), .ref aw, .ref al, .ref (M 3), .ref (M 4), .ref (M 5), .ref (M 6), .ref y, .int (nI nb), .int (nI ny), .int du, .int mny, .int cl, .int (nI fd), .int ws]))], [(M 3, .inl (G.2.1 9, 2, .inr (.inr (.inr (.inr (rfN 2 rR))))))], famW 2 (fun ι => iaP G (rR ι) 12 ((va_up rm j (upd (rm j) (cn j) (nI i))) ι)), [(M 4, .inl (G.2.1 0, 2, .inl (upd ir j (nI (cn j + 1)))))], famW NC (fun ι => mcP G (Q ι) ((va_up mz (li i) (mvG (mz (li i)) x w9 (nI j))) ι)), alP G al bl ml Nl nl (fun κ => (Q (li κ)) 0)])) := by
  refine Mi_of (by decide) (Nat.le_of_ble_eq_true rfl) (fun pP eE sS mM aA bB tT cC AA QQ hC hr hnm hQ => ?_)
  refine V_aload_n hC dX11_grind_0 0 rfl ?_
  refine V_iconst hC dX11_grind_1 (v := 0) (by decide) ?_
  refine V_put hC dX11_grind_2 inAX11 tyX11 tyX11_ok nmX11 0 0 rfl rfl rfl 0 (by decide) q1078 rfl rfl (rfl) (rfl) (Nat.le_of_ble_eq_true rfl) (ps' := [[(M 0, .inr (12, [.int 0, .ref (M 1), .ref (M 2), .ref aw, .ref al, .ref (M 3), .ref (M 4), .ref (M 5), .ref (M 6), .ref y, .int (nI nb), .int (nI ny), .int du, .int mny, .int cl, .int (nI fd), .int ws]))], [(M 3, .inl (G.2.1 9, 2, .inr (.inr (.inr (.inr (rfN 2 rR))))))], famW 2 (fun ι => iaP G (rR ι) 12 (rm ι)), [(M 4, .inl (G.2.1 0, 2, .inl ir))], famW NC (fun ι => mcP G (Q ι) (mz ι)), alP G al bl ml Nl nl (fun κ => (Q (li κ)) 0)]) rfl ?_
  refine V_aload_n hC dX11_grind_5 0 rfl ?_
  refine V_iload_n hC dX11_grind_6 1 rfl ?_
  refine V_calli hC (V_runV hC (rest := []) [.int b] (c_X11_isLot l G M 0 du mny cl ws nb ny fd aw al y Q bl ml Nl nl li b hnl) [0, 5] rfl (by decide) q1358 q1360 q29 q52 q1361 ⟨by decide, by decide, rfl⟩ ⟨by decide, by decide⟩ (ci := 12) rfl (mem_at 0 0 rfl rfl) rfl (Nat.le_of_ble_eq_true rfl) ⟨by decide, by decide⟩ dX11_grind_7) (is := [0, 5]) rfl [1, 2, 3, 4] (rs := [[(M 3, .inl (G.2.1 9, 2, .inr (.inr (.inr (.inr (rfN 2 rR))))))], famW 2 (fun ι => iaP G (rR ι) 12 (rm ι)), [(M 4, .inl (G.2.1 0, 2, .inl ir))], famW NC (fun ι => mcP G (Q ι) (mz ι))]) rfl (by decide) (by decide) ?_
  rintro _ _ ⟨rfl, rfl⟩
  refine V_if_eq hC dX11_grind_10 (tgt := 23) (by decide) (fun h1 => ?_) (fun h1 => ?_)
  · refine V_aload_n hC dX11_grind_23 0 rfl ?_
    refine V_iconst hC dX11_grind_24 (v := 1) (by decide) ?_
    refine V_calli hC (V_runV hC (rest := []) [.int 1] (c_X11_no l G M 0 du mny cl ws nb ny fd aw al y 1) [0] rfl (by decide) q1141 q1143 q20 q52 q1144 ⟨by decide, by decide, rfl⟩ ⟨by decide, by decide⟩ (ci := 12) rfl (mem_at 0 0 rfl rfl) rfl (Nat.le_of_ble_eq_true rfl) ⟨by decide, by decide⟩ dX11_grind_25) (is := [0]) rfl [1, 2, 3, 4, 5] (rs := [alP G al bl ml Nl nl (fun κ => (Q (li κ)) 0), [(M 3, .inl (G.2.1 9, 2, .inr (.inr (.inr (.inr (rfN 2 rR))))))], famW 2 (fun ι => iaP G (rR ι) 12 (rm ι)), [(M 4, .inl (G.2.1 0, 2, .inl ir))], famW NC (fun ι => mcP G (Q ι) (mz ι))]) rfl (by decide) (by decide) ?_
    rintro _ _ ⟨rfl, rfl⟩
    exact V_iret hC hQ hr [0, 2, 3, 4, 5, 1] (u := [[(M 0, .inr (12, [.int 1, .ref (M 1), .ref (M 2), .ref aw, .ref al, .ref (M 3), .ref (M 4), .ref (M 5), .ref (M 6), .ref y, .int (nI nb), .int (nI ny), .int du, .int mny, .int cl, .int (nI fd), .int ws]))], [(M 3, .inl (G.2.1 9, 2, .inr (.inr (.inr (.inr (rfN 2 rR))))))], famW 2 (fun ι => iaP G (rR ι) 12 (rm ι)), [(M 4, .inl (G.2.1 0, 2, .inl ir))], famW NC (fun ι => mcP G (Q ι) (mz ι)), alP G al bl ml Nl nl (fun κ => (Q (li κ)) 0)]) (by decide) rfl (by decide) (by decide) dX11_grind_28 (Or.inl ⟨1, Or.inl ⟨rfl, fun e => absurd (h1.symm.trans e.1) (by decide)⟩, rfl, rfl⟩)
  · obtain ⟨i, hi, rfl⟩ := ix_y (n := nl) (by first | exact h1 | exact (fun e => h1 e))
    have hib : ixB (nI i) (nI nl) = 1 := ixB_in (N := nl) hi
    refine V_iload hC dX11_grind_13 4 rfl ?_
    refine V_iconst hC dX11_grind_15 (v := 0) (by decide) ?_
    refine V_iconst hC dX11_grind_16 (v := 1) (by decide) ?_
    refine V_calli hC (V_runS hC (rest := []) [.int s, .int 0, .int 1] (c_X11_in l G s 0 1) [] rfl (by decide) q1138 q1139 q52 q1140 ⟨by decide, by decide, rfl⟩ ⟨by decide, by decide⟩ rfl (Nat.le_of_ble_eq_true rfl) ⟨by decide, by decide⟩ dX11_grind_17) (is := []) rfl [0, 1, 2, 3, 4, 5] (rs := [[(M 0, .inr (12, [.int 0, .ref (M 1), .ref (M 2), .ref aw, .ref al, .ref (M 3), .ref (M 4), .ref (M 5), .ref (M 6), .ref y, .int (nI nb), .int (nI ny), .int du, .int mny, .int cl, .int (nI fd), .int ws]))], alP G al bl ml Nl nl (fun κ => (Q (li κ)) 0), [(M 3, .inl (G.2.1 9, 2, .inr (.inr (.inr (.inr (rfN 2 rR))))))], famW 2 (fun ι => iaP G (rR ι) 12 (rm ι)), [(M 4, .inl (G.2.1 0, 2, .inl ir))], famW NC (fun ι => mcP G (Q ι) (mz ι))]) rfl (by decide) (by decide) ?_
    rintro _ _ ⟨rfl, rfl⟩
    refine V_if_ne hC dX11_grind_20 (tgt := 29) (by decide) (fun h2 => ?_) (fun h2 => ?_)
    · have hs := moIn_y h2
      obtain ⟨j, hj, rfl⟩ : ∃ w9 : Nat, w9 < 2 ∧ s = nI w9 := by obtain ⟨w9, hw9, e9⟩ := inR_of (M := 1) (moIn_y h2); exact ⟨w9, by omega, e9⟩
      refine V_iload_n hC dX11_grind_29 2 rfl ?_
      refine V_iconst hC dX11_grind_30 (v := 1) (by decide) ?_
      refine V_bipush hC dX11_grind_31 (v := 9) (by decide) ?_
      refine V_calli hC (V_runS hC (rest := []) [.int x, .int 1, .int 9] (c_X11_in l G x 1 9) [] rfl (by decide) q1138 q1139 q52 q1140 ⟨by decide, by decide, rfl⟩ ⟨by decide, by decide⟩ rfl (Nat.le_of_ble_eq_true rfl) ⟨by decide, by decide⟩ dX11_grind_33) (is := []) rfl [0, 1, 2, 3, 4, 5] (rs := [[(M 0, .inr (12, [.int 0, .ref (M 1), .ref (M 2), .ref aw, .ref al, .ref (M 3), .ref (M 4), .ref (M 5), .ref (M 6), .ref y, .int (nI nb), .int (nI ny), .int du, .int mny, .int cl, .int (nI fd), .int ws]))], alP G al bl ml Nl nl (fun κ => (Q (li κ)) 0), [(M 3, .inl (G.2.1 9, 2, .inr (.inr (.inr (.inr (rfN 2 rR))))))], famW 2 (fun ι => iaP G (rR ι) 12 (rm ι)), [(M 4, .inl (G.2.1 0, 2, .inl ir))], famW NC (fun ι => mcP G (Q ι) (mz ι))]) rfl (by decide) (by decide) ?_
      rintro _ _ ⟨rfl, rfl⟩
      refine V_if_eq hC dX11_grind_36 (tgt := 49) (by decide) (fun h3 => ?_) (fun h3 => ?_)
      · refine V_aload_n hC dX11_grind_49 0 rfl ?_
        refine V_iconst hC dX11_grind_50 (v := 2) (by decide) ?_
        refine V_calli hC (V_runV hC (rest := []) [.int 2] (c_X11_no l G M 0 du mny cl ws nb ny fd aw al y 2) [0] rfl (by decide) q1141 q1143 q20 q52 q1144 ⟨by decide, by decide, rfl⟩ ⟨by decide, by decide⟩ (ci := 12) rfl (mem_at 0 0 rfl rfl) rfl (Nat.le_of_ble_eq_true rfl) ⟨by decide, by decide⟩ dX11_grind_51) (is := [0]) rfl [1, 2, 3, 4, 5] (rs := [alP G al bl ml Nl nl (fun κ => (Q (li κ)) 0), [(M 3, .inl (G.2.1 9, 2, .inr (.inr (.inr (.inr (rfN 2 rR))))))], famW 2 (fun ι => iaP G (rR ι) 12 (rm ι)), [(M 4, .inl (G.2.1 0, 2, .inl ir))], famW NC (fun ι => mcP G (Q ι) (mz ι))]) rfl (by decide) (by decide) ?_
        rintro _ _ ⟨rfl, rfl⟩
        exact V_iret hC hQ hr [0, 2, 3, 4, 5, 1] (u := [[(M 0, .inr (12, [.int 2, .ref (M 1), .ref (M 2), .ref aw, .ref al, .ref (M 3), .ref (M 4), .ref (M 5), .ref (M 6), .ref y, .int (nI nb), .int (nI ny), .int du, .int mny, .int cl, .int (nI fd), .int ws]))], [(M 3, .inl (G.2.1 9, 2, .inr (.inr (.inr (.inr (rfN 2 rR))))))], famW 2 (fun ι => iaP G (rR ι) 12 (rm ι)), [(M 4, .inl (G.2.1 0, 2, .inl ir))], famW NC (fun ι => mcP G (Q ι) (mz ι)), alP G al bl ml Nl nl (fun κ => (Q (li κ)) 0)]) (by decide) rfl (by decide) (by decide) dX11_grind_54 (Or.inl ⟨2, Or.inr (Or.inl ⟨rfl, ⟨hib, hs⟩, fun e => moIn_n h3 e.1⟩), rfl, rfl⟩)
      · have hx := moIn_y h3
        refine V_iload_n hC dX11_grind_39 3 rfl ?_
        refine V_iconst hC dX11_grind_40 (v := 0) (by decide) ?_
        refine V_bipush hC dX11_grind_41 (v := 9) (by decide) ?_
        refine V_calli hC (V_runS hC (rest := []) [.int w9, .int 0, .int 9] (c_X11_in l G w9 0 9) [] rfl (by decide) q1138 q1139 q52 q1140 ⟨by decide, by decide, rfl⟩ ⟨by decide, by decide⟩ rfl (Nat.le_of_ble_eq_true rfl) ⟨by decide, by decide⟩ dX11_grind_43) (is := []) rfl [0, 1, 2, 3, 4, 5] (rs := [[(M 0, .inr (12, [.int 0, .ref (M 1), .ref (M 2), .ref aw, .ref al, .ref (M 3), .ref (M 4), .ref (M 5), .ref (M 6), .ref y, .int (nI nb), .int (nI ny), .int du, .int mny, .int cl, .int (nI fd), .int ws]))], alP G al bl ml Nl nl (fun κ => (Q (li κ)) 0), [(M 3, .inl (G.2.1 9, 2, .inr (.inr (.inr (.inr (rfN 2 rR))))))], famW 2 (fun ι => iaP G (rR ι) 12 (rm ι)), [(M 4, .inl (G.2.1 0, 2, .inl ir))], famW NC (fun ι => mcP G (Q ι) (mz ι))]) rfl (by decide) (by decide) ?_
        rintro _ _ ⟨rfl, rfl⟩
        refine V_if_ne hC dX11_grind_46 (tgt := 55) (by decide) (fun h4 => ?_) (fun h4 => ?_)
        · have hy := moIn_y h4
          refine V_aload_n hC dX11_grind_55 0 rfl ?_
          refine V_get hC dX11_grind_56 inAX11 (mem_at 0 0 rfl rfl) rfl 4 (by decide) q1082 rfl (v := .ref al) rfl ?_
          refine V_iload_n hC dX11_grind_59 1 rfl ?_
          refine V_callFr hC (V_runF hC (rest := []) [.int (nI i)] (Mr_sz (c_al_get l G al bl ml Nl nl (fun κ => (Q (li κ)) 0) i hi hlk.1 (by have := hlk.2; omega))) [1] rfl (by decide) q1298 (by decide +kernel) q1303 q1301 q55 q1305 ⟨by decide, by decide, rfl⟩ ⟨by decide, by decide⟩ rfl (mem_at 1 0 rfl rfl) rfl (Nat.le_of_ble_eq_true rfl) ⟨by decide, by decide⟩ dX11_grind_60) (is := [1]) rfl [0, 2, 3, 4, 5] (rs := [[(M 0, .inr (12, [.int 0, .ref (M 1), .ref (M 2), .ref aw, .ref al, .ref (M 3), .ref (M 4), .ref (M 5), .ref (M 6), .ref y, .int (nI nb), .int (nI ny), .int du, .int mny, .int cl, .int (nI fd), .int ws]))], [(M 3, .inl (G.2.1 9, 2, .inr (.inr (.inr (.inr (rfN 2 rR))))))], famW 2 (fun ι => iaP G (rR ι) 12 (rm ι)), [(M 4, .inl (G.2.1 0, 2, .inl ir))], famW NC (fun ι => mcP G (Q ι) (mz ι))]) rfl (by decide) (by decide) ?_
          rintro _ _ ⟨rfl, rfl⟩
          refine V_cast hC dX11_grind_65 q1183 (ci := 10) rfl (mem_fam 5 0 rfl (li i) ((hli i hi)) rfl) ?_
          refine V_astore hC dX11_grind_68 (L' := [(5, .ref ((Q (li i)) 0)), (0, .ref (M 0)), (1, .int (nI i)), (2, .int x), (3, .int w9), (4, .int (nI j))]) (by decide) rfl ?_
          refine V_aload hC dX11_grind_70 0 rfl ?_
          refine V_sub [5, 0, 1, 2, 3, 4] (by decide) (u := [famW NC (fun ι => mcP G (Q ι) (mz ι)), alP G al bl ml Nl nl (fun κ => (Q (li κ)) 0), [(M 0, .inr (12, [.int 0, .ref (M 1), .ref (M 2), .ref aw, .ref al, .ref (M 3), .ref (M 4), .ref (M 5), .ref (M 6), .ref y, .int (nI nb), .int (nI ny), .int du, .int mny, .int cl, .int (nI fd), .int ws]))], [(M 3, .inl (G.2.1 9, 2, .inr (.inr (.inr (.inr (rfN 2 rR))))))], famW 2 (fun ι => iaP G (rR ι) 12 (rm ι)), [(M 4, .inl (G.2.1 0, 2, .inl ir))]]) rfl ?_
          refine V_open (i := li i) (hli i hi) ?_
          refine V_calli hC (V_runV hC (rest := []) [] (c_X9_isGround l G (Q (li i)) (mz (li i))) [0] rfl (by decide) q1362 q1363 q1364 q57 q1365 ⟨by decide, by decide, rfl⟩ ⟨by decide, by decide⟩ (ci := 10) rfl (mem_at 0 0 rfl rfl) rfl (Nat.le_of_ble_eq_true rfl) ⟨by decide, by decide⟩ dX11_grind_72) (is := [0]) rfl [1, 2, 3, 4, 5, 6] (rs := [famX NC (li i) (fun ι => mcP G (Q ι) (mz ι)), alP G al bl ml Nl nl (fun κ => (Q (li κ)) 0), [(M 0, .inr (12, [.int 0, .ref (M 1), .ref (M 2), .ref aw, .ref al, .ref (M 3), .ref (M 4), .ref (M 5), .ref (M 6), .ref y, .int (nI nb), .int (nI ny), .int du, .int mny, .int cl, .int (nI fd), .int ws]))], [(M 3, .inl (G.2.1 9, 2, .inr (.inr (.inr (.inr (rfN 2 rR))))))], famW 2 (fun ι => iaP G (rR ι) 12 (rm ι)), [(M 4, .inl (G.2.1 0, 2, .inl ir))]]) rfl (by decide) (by decide) ?_
          rintro _ _ ⟨rfl, rfl⟩
          refine V_if_eq hC dX11_grind_75 (tgt := 84) (by decide) (fun h5 => ?_) (fun h5 => ?_)
          · have hg := moGr_n h5
            refine V_aload hC dX11_grind_84 0 rfl ?_
            refine V_iload_n hC dX11_grind_86 3 rfl ?_
            refine V_put hC dX11_grind_87 inAX9 tyX9 tyX9_ok nmX9 0 0 rfl rfl rfl 7 (by decide) q1002 rfl rfl (rfl) (rfl) (Nat.le_of_ble_eq_true rfl) (ps' := [mcP G (Q (li i)) (hv9 (((mz (li i)).1) 0) (((mz (li i)).1) 1) (((mz (li i)).1) 2) (((mz (li i)).1) 3) (((mz (li i)).1) 4) x (((mz (li i)).1) 6) (((mz (li i)).1) 7) (((mz (li i)).1) 8), (mz (li i)).2.1, (mz (li i)).2.2.1, (mz (li i)).2.2.2), famX NC (li i) (fun ι => mcP G (Q ι) (mz ι)), alP G al bl ml Nl nl (fun κ => (Q (li κ)) 0), [(M 0, .inr (12, [.int 0, .ref (M 1), .ref (M 2), .ref aw, .ref al, .ref (M 3), .ref (M 4), .ref (M 5), .ref (M 6), .ref y, .int (nI nb), .int (nI ny), .int du, .int mny, .int cl, .int (nI fd), .int ws]))], [(M 3, .inl (G.2.1 9, 2, .inr (.inr (.inr (.inr (rfN 2 rR))))))], famW 2 (fun ι => iaP G (rR ι) 12 (rm ι)), [(M 4, .inl (G.2.1 0, 2, .inl ir))]]) rfl ?_
            refine V_aload hC dX11_grind_90 0 rfl ?_
            refine V_iload_n hC dX11_grind_92 4 rfl ?_
            refine V_put hC dX11_grind_93 inAX9 tyX9 tyX9_ok nmX9 0 0 rfl rfl rfl 8 (by decide) q1004 rfl rfl (rfl) (rfl) (Nat.le_of_ble_eq_true rfl) (ps' := [mcP G (Q (li i)) (hv9 (((mz (li i)).1) 0) (((mz (li i)).1) 1) (((mz (li i)).1) 2) (((mz (li i)).1) 3) (((mz (li i)).1) 4) x w9 (((mz (li i)).1) 7) (((mz (li i)).1) 8), (mz (li i)).2.1, (mz (li i)).2.2.1, (mz (li i)).2.2.2), famX NC (li i) (fun ι => mcP G (Q ι) (mz ι)), alP G al bl ml Nl nl (fun κ => (Q (li κ)) 0), [(M 0, .inr (12, [.int 0, .ref (M 1), .ref (M 2), .ref aw, .ref al, .ref (M 3), .ref (M 4), .ref (M 5), .ref (M 6), .ref y, .int (nI nb), .int (nI ny), .int du, .int mny, .int cl, .int (nI fd), .int ws]))], [(M 3, .inl (G.2.1 9, 2, .inr (.inr (.inr (.inr (rfN 2 rR))))))], famW 2 (fun ι => iaP G (rR ι) 12 (rm ι)), [(M 4, .inl (G.2.1 0, 2, .inl ir))]]) rfl ?_
            refine V_aload hC dX11_grind_96 0 rfl ?_
            refine V_iload hC dX11_grind_98 5 rfl ?_
            refine V_put hC dX11_grind_100 inAX9 tyX9 tyX9_ok nmX9 0 0 rfl rfl rfl 9 (by decide) q1006 rfl rfl (rfl) (rfl) (Nat.le_of_ble_eq_true rfl) (ps' := [mcP G (Q (li i)) (hv9 (((mz (li i)).1) 0) (((mz (li i)).1) 1) (((mz (li i)).1) 2) (((mz (li i)).1) 3) (((mz (li i)).1) 4) x w9 (nI j) (((mz (li i)).1) 8), (mz (li i)).2.1, (mz (li i)).2.2.1, (mz (li i)).2.2.2), famX NC (li i) (fun ι => mcP G (Q ι) (mz ι)), alP G al bl ml Nl nl (fun κ => (Q (li κ)) 0), [(M 0, .inr (12, [.int 0, .ref (M 1), .ref (M 2), .ref aw, .ref al, .ref (M 3), .ref (M 4), .ref (M 5), .ref (M 6), .ref y, .int (nI nb), .int (nI ny), .int du, .int mny, .int cl, .int (nI fd), .int ws]))], [(M 3, .inl (G.2.1 9, 2, .inr (.inr (.inr (.inr (rfN 2 rR))))))], famW 2 (fun ι => iaP G (rR ι) 12 (rm ι)), [(M 4, .inl (G.2.1 0, 2, .inl ir))]]) rfl ?_
            refine V_aload hC dX11_grind_103 0 rfl ?_
            refine V_aload hC dX11_grind_105 0 rfl ?_
            refine V_calli hC (V_runV hC (rest := [.ref ((Q (li i)) 0)]) [] (c_X9_all l G (Q (li i)) (hv9 (((mz (li i)).1) 0) (((mz (li i)).1) 1) (((mz (li i)).1) 2) (((mz (li i)).1) 3) (((mz (li i)).1) 4) x w9 (nI j) (((mz (li i)).1) 8), (mz (li i)).2.1, (mz (li i)).2.2.1, (mz (li i)).2.2.2)) [0] rfl (by decide) q1366 q1367 q1368 q57 q1369 ⟨by decide, by decide, rfl⟩ ⟨by decide, by decide⟩ (ci := 10) rfl (mem_at 0 0 rfl rfl) rfl (Nat.le_of_ble_eq_true rfl) ⟨by decide, by decide⟩ dX11_grind_107) (is := [0]) rfl [1, 2, 3, 4, 5, 6] (rs := [famX NC (li i) (fun ι => mcP G (Q ι) (mz ι)), alP G al bl ml Nl nl (fun κ => (Q (li κ)) 0), [(M 0, .inr (12, [.int 0, .ref (M 1), .ref (M 2), .ref aw, .ref al, .ref (M 3), .ref (M 4), .ref (M 5), .ref (M 6), .ref y, .int (nI nb), .int (nI ny), .int du, .int mny, .int cl, .int (nI fd), .int ws]))], [(M 3, .inl (G.2.1 9, 2, .inr (.inr (.inr (.inr (rfN 2 rR))))))], famW 2 (fun ι => iaP G (rR ι) 12 (rm ι)), [(M 4, .inl (G.2.1 0, 2, .inl ir))]]) rfl (by decide) (by decide) ?_
            rintro _ _ ⟨rfl, rfl⟩
            refine V_put hC dX11_grind_110 inAX9 tyX9 tyX9_ok nmX9 0 0 rfl rfl rfl 10 (by decide) q1008 rfl rfl (rfl) (rfl) (Nat.le_of_ble_eq_true rfl) (ps' := [mcP G (Q (li i)) (hv9 (((mz (li i)).1) 0) (((mz (li i)).1) 1) (((mz (li i)).1) 2) (((mz (li i)).1) 3) (((mz (li i)).1) 4) x w9 (nI j) (moAll (hv9 (((mz (li i)).1) 0) (((mz (li i)).1) 1) (((mz (li i)).1) 2) (((mz (li i)).1) 3) (((mz (li i)).1) 4) x w9 (nI j) (((mz (li i)).1) 8), (mz (li i)).2.1, (mz (li i)).2.2.1, (mz (li i)).2.2.2).2.1), (mz (li i)).2.1, (mz (li i)).2.2.1, (mz (li i)).2.2.2), famX NC (li i) (fun ι => mcP G (Q ι) (mz ι)), alP G al bl ml Nl nl (fun κ => (Q (li κ)) 0), [(M 0, .inr (12, [.int 0, .ref (M 1), .ref (M 2), .ref aw, .ref al, .ref (M 3), .ref (M 4), .ref (M 5), .ref (M 6), .ref y, .int (nI nb), .int (nI ny), .int du, .int mny, .int cl, .int (nI fd), .int ws]))], [(M 3, .inl (G.2.1 9, 2, .inr (.inr (.inr (.inr (rfN 2 rR))))))], famW 2 (fun ι => iaP G (rR ι) 12 (rm ι)), [(M 4, .inl (G.2.1 0, 2, .inl ir))]]) rfl ?_
            refine V_psEq (ps' := [mcP G (Q (li i)) (mvG (mz (li i)) x w9 (nI j)), famX NC (li i) (fun ι => mcP G (Q ι) (mz ι)), alP G al bl ml Nl nl (fun κ => (Q (li κ)) 0), [(M 0, .inr (12, [.int 0, .ref (M 1), .ref (M 2), .ref aw, .ref al, .ref (M 3), .ref (M 4), .ref (M 5), .ref (M 6), .ref y, .int (nI nb), .int (nI ny), .int du, .int mny, .int cl, .int (nI fd), .int ws]))], [(M 3, .inl (G.2.1 9, 2, .inr (.inr (.inr (.inr (rfN 2 rR))))))], famW 2 (fun ι => iaP G (rR ι) 12 (rm ι)), [(M 4, .inl (G.2.1 0, 2, .inl ir))]]) rfl ?_
            refine V_close (i := li i) (g' := fun ι => mcP G (Q ι) ((va_up mz (li i) (mvG (mz (li i)) x w9 (nI j))) ι)) (hli i hi) (by simp [va_up]) (fun j _ hne => by simp [va_up, hne]) ?_
            refine V_aload_n hC dX11_grind_113 1 rfl ?_
            refine V_get hC dX11_grind_114 inAX11 (mem_at 2 0 rfl rfl) rfl 5 (by decide) q1083 rfl (v := .ref (M 3)) rfl ?_
            refine V_iload hC dX11_grind_117 5 rfl ?_
            refine V_aaldI hC dX11_grind_119 (mem_at 3 0 rfl rfl) (vp_in_nI (by omega) (by omega)) (x := j) (nI_clamp (by omega)) (b := rR j) (rfN_at (hj)) ?_
            refine V_aload_n hC dX11_grind_120 1 rfl ?_
            refine V_get hC dX11_grind_121 inAX11 (mem_at 2 0 rfl rfl) rfl 6 (by decide) q1084 rfl (v := .ref (M 4)) rfl ?_
            refine V_iload hC dX11_grind_124 5 rfl ?_
            refine V_dup2 hC dX11_grind_126 rfl rfl ?_
            refine V_iald hC dX11_grind_127 (mem_at 5 0 rfl rfl) (vp_in_nI (by omega) (by omega)) (x := j) (nI_clamp (by omega)) ?_
            refine V_eqi (y := nI (cn j)) (hir j hj) ?_
            refine V_dup_x2 hC dX11_grind_128 rfl rfl rfl ?_
            refine V_iconst hC dX11_grind_129 (v := 1) (by decide) ?_
            refine V_iadd hC dX11_grind_130 ?_
            refine V_eqi (y := nI (cn j + 1)) (nI_1 _) ?_
            refine V_iast hC dX11_grind_131 5 0 rfl rfl (vp_in_nI (by omega) (by omega)) (z := j) (nI_clamp (by omega)) (ps' := [famW NC (fun ι => mcP G (Q ι) ((va_up mz (li i) (mvG (mz (li i)) x w9 (nI j))) ι)), alP G al bl ml Nl nl (fun κ => (Q (li κ)) 0), [(M 0, .inr (12, [.int 0, .ref (M 1), .ref (M 2), .ref aw, .ref al, .ref (M 3), .ref (M 4), .ref (M 5), .ref (M 6), .ref y, .int (nI nb), .int (nI ny), .int du, .int mny, .int cl, .int (nI fd), .int ws]))], [(M 3, .inl (G.2.1 9, 2, .inr (.inr (.inr (.inr (rfN 2 rR))))))], famW 2 (fun ι => iaP G (rR ι) 12 (rm ι)), [(M 4, .inl (G.2.1 0, 2, .inl (upd ir j (nI (cn j + 1)))))]]) rfl ?_
            refine V_iload_n hC dX11_grind_132 2 rfl ?_
            refine V_sub [4, 0, 1, 2, 3, 5] (by decide) (u := [famW 2 (fun ι => iaP G (rR ι) 12 (rm ι)), famW NC (fun ι => mcP G (Q ι) ((va_up mz (li i) (mvG (mz (li i)) x w9 (nI j))) ι)), alP G al bl ml Nl nl (fun κ => (Q (li κ)) 0), [(M 0, .inr (12, [.int 0, .ref (M 1), .ref (M 2), .ref aw, .ref al, .ref (M 3), .ref (M 4), .ref (M 5), .ref (M 6), .ref y, .int (nI nb), .int (nI ny), .int du, .int mny, .int cl, .int (nI fd), .int ws]))], [(M 3, .inl (G.2.1 9, 2, .inr (.inr (.inr (.inr (rfN 2 rR))))))], [(M 4, .inl (G.2.1 0, 2, .inl (upd ir j (nI (cn j + 1)))))]]) rfl ?_
            refine V_open (i := j) (hj) ?_
            refine V_iast hC dX11_grind_133 0 0 rfl rfl (vp_in_nI (hcn i hi hg j hj) (by omega)) (z := cn j) (nI_clamp (by have := hcn i hi hg j hj; omega)) (ps' := [iaP G (rR j) 12 (upd (rm j) (cn j) (nI i)), famX 2 j (fun ι => iaP G (rR ι) 12 (rm ι)), famW NC (fun ι => mcP G (Q ι) ((va_up mz (li i) (mvG (mz (li i)) x w9 (nI j))) ι)), alP G al bl ml Nl nl (fun κ => (Q (li κ)) 0), [(M 0, .inr (12, [.int 0, .ref (M 1), .ref (M 2), .ref aw, .ref al, .ref (M 3), .ref (M 4), .ref (M 5), .ref (M 6), .ref y, .int (nI nb), .int (nI ny), .int du, .int mny, .int cl, .int (nI fd), .int ws]))], [(M 3, .inl (G.2.1 9, 2, .inr (.inr (.inr (.inr (rfN 2 rR))))))], [(M 4, .inl (G.2.1 0, 2, .inl (upd ir j (nI (cn j + 1)))))]]) rfl ?_
            refine V_close (i := j) (g' := fun ι => iaP G (rR ι) 12 ((va_up rm j (upd (rm j) (cn j) (nI i))) ι)) (hj) (by simp [va_up]) (fun j _ hne => by simp [va_up, hne]) ?_
            refine V_aload hC dX11_grind_134 0 rfl ?_
            refine V_get hC dX11_grind_136 inAX9 (mem_fam 1 0 rfl (li i) ((hli i hi)) rfl) rfl 10 (by decide) q1008 rfl (v := .int ((((va_up mz (li i) (mvG (mz (li i)) x w9 (nI j))) (li i)).1) 8)) rfl ?_
            refine V_eqi (y := moAll (mz (li i)).2.1) (by rw [va_up_eq]; rfl) ?_
            exact V_iret hC hQ hr [3, 4, 0, 5, 1, 2] (u := [[(M 0, .inr (12, [.int 0, .ref (M 1), .ref (M 2), .ref aw, .ref al, .ref (M 3), .ref (M 4), .ref (M 5), .ref (M 6), .ref y, .int (nI nb), .int (nI ny), .int du, .int mny, .int cl, .int (nI fd), .int ws]))], [(M 3, .inl (G.2.1 9, 2, .inr (.inr (.inr (.inr (rfN 2 rR))))))], famW 2 (fun ι => iaP G (rR ι) 12 ((va_up rm j (upd (rm j) (cn j) (nI i))) ι)), [(M 4, .inl (G.2.1 0, 2, .inl (upd ir j (nI (cn j + 1)))))], famW NC (fun ι => mcP G (Q ι) ((va_up mz (li i) (mvG (mz (li i)) x w9 (nI j))) ι)), alP G al bl ml Nl nl (fun κ => (Q (li κ)) 0)]) (by decide) rfl (by decide) (by decide) dX11_grind_139 (Or.inr ⟨i, j, hi, rfl, hj, rfl, hx, hy, hg, rfl, rfl⟩)
          · have hg := moGr_y h5
            refine V_close (i := li i) (g' := fun ι => mcP G (Q ι) (mz ι)) (hli i hi) (rfl) (fun _ _ _ => rfl) ?_
            refine V_aload_n hC dX11_grind_78 1 rfl ?_
            refine V_iconst hC dX11_grind_79 (v := 3) (by decide) ?_
            refine V_calli hC (V_runV hC (rest := []) [.int 3] (c_X11_no l G M 0 du mny cl ws nb ny fd aw al y 3) [2] rfl (by decide) q1141 q1143 q20 q52 q1144 ⟨by decide, by decide, rfl⟩ ⟨by decide, by decide⟩ (ci := 12) rfl (mem_at 2 0 rfl rfl) rfl (Nat.le_of_ble_eq_true rfl) ⟨by decide, by decide⟩ dX11_grind_80) (is := [2]) rfl [0, 1, 3, 4, 5] (rs := [famW NC (fun ι => mcP G (Q ι) (mz ι)), alP G al bl ml Nl nl (fun κ => (Q (li κ)) 0), [(M 3, .inl (G.2.1 9, 2, .inr (.inr (.inr (.inr (rfN 2 rR))))))], famW 2 (fun ι => iaP G (rR ι) 12 (rm ι)), [(M 4, .inl (G.2.1 0, 2, .inl ir))]]) rfl (by decide) (by decide) ?_
            rintro _ _ ⟨rfl, rfl⟩
            exact V_iret hC hQ hr [0, 3, 4, 5, 1, 2] (u := [[(M 0, .inr (12, [.int 3, .ref (M 1), .ref (M 2), .ref aw, .ref al, .ref (M 3), .ref (M 4), .ref (M 5), .ref (M 6), .ref y, .int (nI nb), .int (nI ny), .int du, .int mny, .int cl, .int (nI fd), .int ws]))], [(M 3, .inl (G.2.1 9, 2, .inr (.inr (.inr (.inr (rfN 2 rR))))))], famW 2 (fun ι => iaP G (rR ι) 12 (rm ι)), [(M 4, .inl (G.2.1 0, 2, .inl ir))], famW NC (fun ι => mcP G (Q ι) (mz ι)), alP G al bl ml Nl nl (fun κ => (Q (li κ)) 0)]) (by decide) rfl (by decide) (by decide) dX11_grind_83 (Or.inl ⟨3, Or.inr (Or.inr ⟨rfl, ⟨hib, hs⟩, ⟨hx, hy⟩, by rw [nI_clamp (by omega)]; exact hg⟩), rfl, rfl⟩)
        · refine V_aload_n hC dX11_grind_49 0 rfl ?_
          refine V_iconst hC dX11_grind_50 (v := 2) (by decide) ?_
          refine V_calli hC (V_runV hC (rest := []) [.int 2] (c_X11_no l G M 0 du mny cl ws nb ny fd aw al y 2) [0] rfl (by decide) q1141 q1143 q20 q52 q1144 ⟨by decide, by decide, rfl⟩ ⟨by decide, by decide⟩ (ci := 12) rfl (mem_at 0 0 rfl rfl) rfl (Nat.le_of_ble_eq_true rfl) ⟨by decide, by decide⟩ dX11_grind_51) (is := [0]) rfl [1, 2, 3, 4, 5] (rs := [alP G al bl ml Nl nl (fun κ => (Q (li κ)) 0), [(M 3, .inl (G.2.1 9, 2, .inr (.inr (.inr (.inr (rfN 2 rR))))))], famW 2 (fun ι => iaP G (rR ι) 12 (rm ι)), [(M 4, .inl (G.2.1 0, 2, .inl ir))], famW NC (fun ι => mcP G (Q ι) (mz ι))]) rfl (by decide) (by decide) ?_
          rintro _ _ ⟨rfl, rfl⟩
          exact V_iret hC hQ hr [0, 2, 3, 4, 5, 1] (u := [[(M 0, .inr (12, [.int 2, .ref (M 1), .ref (M 2), .ref aw, .ref al, .ref (M 3), .ref (M 4), .ref (M 5), .ref (M 6), .ref y, .int (nI nb), .int (nI ny), .int du, .int mny, .int cl, .int (nI fd), .int ws]))], [(M 3, .inl (G.2.1 9, 2, .inr (.inr (.inr (.inr (rfN 2 rR))))))], famW 2 (fun ι => iaP G (rR ι) 12 (rm ι)), [(M 4, .inl (G.2.1 0, 2, .inl ir))], famW NC (fun ι => mcP G (Q ι) (mz ι)), alP G al bl ml Nl nl (fun κ => (Q (li κ)) 0)]) (by decide) rfl (by decide) (by decide) dX11_grind_54 (Or.inl ⟨2, Or.inr (Or.inl ⟨rfl, ⟨hib, hs⟩, fun e => moIn_n h4 e.2⟩), rfl, rfl⟩)
    · refine V_aload_n hC dX11_grind_23 0 rfl ?_
      refine V_iconst hC dX11_grind_24 (v := 1) (by decide) ?_
      refine V_calli hC (V_runV hC (rest := []) [.int 1] (c_X11_no l G M 0 du mny cl ws nb ny fd aw al y 1) [0] rfl (by decide) q1141 q1143 q20 q52 q1144 ⟨by decide, by decide, rfl⟩ ⟨by decide, by decide⟩ (ci := 12) rfl (mem_at 0 0 rfl rfl) rfl (Nat.le_of_ble_eq_true rfl) ⟨by decide, by decide⟩ dX11_grind_25) (is := [0]) rfl [1, 2, 3, 4, 5] (rs := [alP G al bl ml Nl nl (fun κ => (Q (li κ)) 0), [(M 3, .inl (G.2.1 9, 2, .inr (.inr (.inr (.inr (rfN 2 rR))))))], famW 2 (fun ι => iaP G (rR ι) 12 (rm ι)), [(M 4, .inl (G.2.1 0, 2, .inl ir))], famW NC (fun ι => mcP G (Q ι) (mz ι))]) rfl (by decide) (by decide) ?_
      rintro _ _ ⟨rfl, rfl⟩
      exact V_iret hC hQ hr [0, 2, 3, 4, 5, 1] (u := [[(M 0, .inr (12, [.int 1, .ref (M 1), .ref (M 2), .ref aw, .ref al, .ref (M 3), .ref (M 4), .ref (M 5), .ref (M 6), .ref y, .int (nI nb), .int (nI ny), .int du, .int mny, .int cl, .int (nI fd), .int ws]))], [(M 3, .inl (G.2.1 9, 2, .inr (.inr (.inr (.inr (rfN 2 rR))))))], famW 2 (fun ι => iaP G (rR ι) 12 (rm ι)), [(M 4, .inl (G.2.1 0, 2, .inl ir))], famW NC (fun ι => mcP G (Q ι) (mz ι)), alP G al bl ml Nl nl (fun κ => (Q (li κ)) 0)]) (by decide) rfl (by decide) (by decide) dX11_grind_28 (Or.inl ⟨1, Or.inl ⟨rfl, fun e => moIn_n h2 e.2⟩, rfl, rfl⟩)
set_option maxHeartbeats 4000000 in
set_option maxRecDepth 100000 in
/-- ClinkerWorksModel.cube -/
theorem c_X11_cube (l : Launch) (G : VG) (M : Nat → Nat) (th du mny cl ws : Int32) (nb ny fd aw al y : Nat) (Q : Nat → Nat → Nat) (NC : Nat) (mz : Nat → MV) (bl : Nat) (ml : Int32) (Nl nl : Nat) (li : Nat → Nat) (wd sh : Nat → Int32) (sj : Nat → Nat) (b x : Int32) (hnl : nl ≤ 12) (hlk : alOk Nl nl) (hli : ∀ j, j < nl → li j < NC) (hfd : fd < 2 ^ 30) (hsj : ∀ i, i < nl → ¬ (mz (li i)).1 7 = -1 → sj i < 2 ∧ (mz (li i)).1 7 = nI (sj i)) (hsh : ∀ j, j < 2 → sh j = 0 ∨ sh j = 1) : Mi l G yX11_cube cX11_cube 4 .int 4 77 0 0 [.ref (M 0), .int b, .int x] [[(M 0, .inr (12, [.int th, .ref (M 1), .ref (M 2), .ref aw, .ref al, .ref (M 3), .ref (M 4), .ref (M 5), .ref (M 6), .ref y, .int (nI nb), .int (nI ny), .int du, .int mny, .int cl, .int (nI fd), .int ws]))], alP G al bl ml Nl nl (fun κ => (Q (li κ)) 0), famW NC (fun ι => mcP G (Q ι) (mz ι)), [(M 6, .inl (G.2.1 0, 6, .inl wd))], [(M 5, .inl (G.2.1 1, 2, .inl sh))]] (fun r v => (∃ tt : Int32, ((tt = 1 ∧ ixB b (nI nl) = 0) ∨ (tt = 2 ∧ ixB b (nI nl) = 1 ∧ ¬ inR 0 2 x) ∨ (tt = 3 ∧ ixB b (nI nl) = 1 ∧ inR 0 2 x ∧ ((mz (li b.toNatClampNeg)).1 7 = -1 ∨ ¬ (mz (li b.toNatClampNeg)).2.2.2 x.toNatClampNeg = -1))) ∧ r = 0 ∧ v = [[(M 0, .inr (12, [.int tt, .ref (M 1), .ref (M 2), .ref aw, .ref al, .ref (M 3), .ref (M 4), .ref (M 5), .ref (M 6), .ref y, .int (nI nb), .int (nI ny), .int du, .int mny, .int cl, .int (nI fd), .int ws]))], alP G al bl ml Nl nl (fun κ => (Q (li κ)) 0), famW NC (fun ι => mcP G (Q ι) (mz ι)), [(M 6, .inl (G.2.1 0, 6, .inl wd))], [(M 5, .inl (G.2.1 1, 2, .inl sh))]]) ∨ (∃ i w j : Nat, i < nl ∧ b = nI i ∧ w ≤ 2 ∧ x = nI w ∧ j < 2 ∧ (mz (li i)).1 7 = nI j ∧ (mz (li i)).2.2.2 w = -1 ∧ r = (moStr (mz (li i)) (nI w)) ∧ v = [[(M 0, .inr (12, [.int 0, .ref (M 1), .ref (M 2), .ref aw, .ref al, .ref (M 3), .ref (M 4), .ref (M 5), .ref (M 6), .ref y, .int (nI nb), .int (nI ny), .int du, .int mny, .int (cmC wd ws fd w (moStr (mz (li i)) (nI w)) cl), .int (nI (cmN fd w)), .int ws]))], alP G al bl ml Nl nl (fun κ => (Q (li κ)) 0), famW NC (fun ι => mcP G (Q ι) ((va_up mz (li i) (mvC (mz (li i)) w)) ι)), [(M 6, .inl (G.2.1 0, 6, .inl (cmD wd fd w (moStr (mz (li i)) (nI w)))))], [(M 5, .inl (G.2.1 1, 2, .inl (cmS wd ws fd w (moStr (mz (li i)) (nI w)) ((mz (li i)).1 8) j sh)))]])) := by
  refine Mi_of (by decide) (Nat.le_of_ble_eq_true rfl) (fun pP eE sS mM aA bB tT cC AA QQ hC hr hnm hQ => ?_)
  refine V_aload_n hC dX11_cube_0 0 rfl ?_
  refine V_iconst hC dX11_cube_1 (v := 0) (by decide) ?_
  refine V_put hC dX11_cube_2 inAX11 tyX11 tyX11_ok nmX11 0 0 rfl rfl rfl 0 (by decide) q1078 rfl rfl (rfl) (rfl) (Nat.le_of_ble_eq_true rfl) (ps' := [[(M 0, .inr (12, [.int 0, .ref (M 1), .ref (M 2), .ref aw, .ref al, .ref (M 3), .ref (M 4), .ref (M 5), .ref (M 6), .ref y, .int (nI nb), .int (nI ny), .int du, .int mny, .int cl, .int (nI fd), .int ws]))], alP G al bl ml Nl nl (fun κ => (Q (li κ)) 0), famW NC (fun ι => mcP G (Q ι) (mz ι)), [(M 6, .inl (G.2.1 0, 6, .inl wd))], [(M 5, .inl (G.2.1 1, 2, .inl sh))]]) rfl ?_
  refine V_aload_n hC dX11_cube_5 0 rfl ?_
  refine V_iload_n hC dX11_cube_6 1 rfl ?_
  refine V_calli hC (V_runV hC (rest := []) [.int b] (c_X11_isLot l G M 0 du mny cl ws nb ny fd aw al y Q bl ml Nl nl li b hnl) [0, 1] rfl (by decide) q1358 q1360 q29 q52 q1361 ⟨by decide, by decide, rfl⟩ ⟨by decide, by decide⟩ (ci := 12) rfl (mem_at 0 0 rfl rfl) rfl (Nat.le_of_ble_eq_true rfl) ⟨by decide, by decide⟩ dX11_cube_7) (is := [0, 1]) rfl [2, 3, 4] (rs := [famW NC (fun ι => mcP G (Q ι) (mz ι)), [(M 6, .inl (G.2.1 0, 6, .inl wd))], [(M 5, .inl (G.2.1 1, 2, .inl sh))]]) rfl (by decide) (by decide) ?_
  rintro _ _ ⟨rfl, rfl⟩
  refine V_if_ne hC dX11_cube_10 (tgt := 19) (by decide) (fun h1 => ?_) (fun h1 => ?_)
  · obtain ⟨i, hi, rfl⟩ := ix_y (n := nl) (by first | exact h1 | exact (fun e => h1 e))
    have hib : ixB (nI i) (nI nl) = 1 := ixB_in (N := nl) hi
    refine V_iload_n hC dX11_cube_19 2 rfl ?_
    refine V_iconst hC dX11_cube_20 (v := 0) (by decide) ?_
    refine V_iconst hC dX11_cube_21 (v := 2) (by decide) ?_
    refine V_calli hC (V_runS hC (rest := []) [.int x, .int 0, .int 2] (c_X11_in l G x 0 2) [] rfl (by decide) q1138 q1139 q52 q1140 ⟨by decide, by decide, rfl⟩ ⟨by decide, by decide⟩ rfl (Nat.le_of_ble_eq_true rfl) ⟨by decide, by decide⟩ dX11_cube_22) (is := []) rfl [0, 1, 2, 3, 4] (rs := [[(M 0, .inr (12, [.int 0, .ref (M 1), .ref (M 2), .ref aw, .ref al, .ref (M 3), .ref (M 4), .ref (M 5), .ref (M 6), .ref y, .int (nI nb), .int (nI ny), .int du, .int mny, .int cl, .int (nI fd), .int ws]))], alP G al bl ml Nl nl (fun κ => (Q (li κ)) 0), famW NC (fun ι => mcP G (Q ι) (mz ι)), [(M 6, .inl (G.2.1 0, 6, .inl wd))], [(M 5, .inl (G.2.1 1, 2, .inl sh))]]) rfl (by decide) (by decide) ?_
    rintro _ _ ⟨rfl, rfl⟩
    refine V_if_ne hC dX11_cube_25 (tgt := 34) (by decide) (fun h2 => ?_) (fun h2 => ?_)
    · have hx := moIn_y h2
      obtain ⟨w, hw, rfl⟩ := inR_of (M := 2) hx
      rcases (show w = 0 ∨ w = 1 ∨ w = 2 by omega) with rfl | rfl | rfl
      · refine V_aload_n hC dX11_cube_34 0 rfl ?_
        refine V_get hC dX11_cube_35 inAX11 (mem_at 0 0 rfl rfl) rfl 4 (by decide) q1082 rfl (v := .ref al) rfl ?_
        refine V_iload_n hC dX11_cube_38 1 rfl ?_
        refine V_callFr hC (V_runF hC (rest := []) [.int (nI i)] (Mr_sz (c_al_get l G al bl ml Nl nl (fun κ => (Q (li κ)) 0) i hi hlk.1 (by have := hlk.2; omega))) [1] rfl (by decide) q1298 (by decide +kernel) q1303 q1301 q55 q1305 ⟨by decide, by decide, rfl⟩ ⟨by decide, by decide⟩ rfl (mem_at 1 0 rfl rfl) rfl (Nat.le_of_ble_eq_true rfl) ⟨by decide, by decide⟩ dX11_cube_39) (is := [1]) rfl [0, 2, 3, 4] (rs := [[(M 0, .inr (12, [.int 0, .ref (M 1), .ref (M 2), .ref aw, .ref al, .ref (M 3), .ref (M 4), .ref (M 5), .ref (M 6), .ref y, .int (nI nb), .int (nI ny), .int du, .int mny, .int cl, .int (nI fd), .int ws]))], famW NC (fun ι => mcP G (Q ι) (mz ι)), [(M 6, .inl (G.2.1 0, 6, .inl wd))], [(M 5, .inl (G.2.1 1, 2, .inl sh))]]) rfl (by decide) (by decide) ?_
        rintro _ _ ⟨rfl, rfl⟩
        refine V_cast hC dX11_cube_44 q1183 (ci := 10) rfl (mem_fam 2 0 rfl (li i) ((hli i hi)) rfl) ?_
        refine V_astore_n hC dX11_cube_47 (L' := [(3, .ref ((Q (li i)) 0)), (0, .ref (M 0)), (1, .int (nI i)), (2, .int (nI 0))]) (by decide) rfl ?_
        refine V_aload_n hC dX11_cube_48 0 rfl ?_
        refine V_sub [2, 0, 1, 3, 4] (by decide) (u := [famW NC (fun ι => mcP G (Q ι) (mz ι)), alP G al bl ml Nl nl (fun κ => (Q (li κ)) 0), [(M 0, .inr (12, [.int 0, .ref (M 1), .ref (M 2), .ref aw, .ref al, .ref (M 3), .ref (M 4), .ref (M 5), .ref (M 6), .ref y, .int (nI nb), .int (nI ny), .int du, .int mny, .int cl, .int (nI fd), .int ws]))], [(M 6, .inl (G.2.1 0, 6, .inl wd))], [(M 5, .inl (G.2.1 1, 2, .inl sh))]]) rfl ?_
        refine V_open (i := li i) (hli i hi) ?_
        refine V_calli hC (V_runV hC (rest := []) [] (c_X9_isGround l G (Q (li i)) (mz (li i))) [0] rfl (by decide) q1362 q1363 q1364 q57 q1365 ⟨by decide, by decide, rfl⟩ ⟨by decide, by decide⟩ (ci := 10) rfl (mem_at 0 0 rfl rfl) rfl (Nat.le_of_ble_eq_true rfl) ⟨by decide, by decide⟩ dX11_cube_49) (is := [0]) rfl [1, 2, 3, 4, 5] (rs := [famX NC (li i) (fun ι => mcP G (Q ι) (mz ι)), alP G al bl ml Nl nl (fun κ => (Q (li κ)) 0), [(M 0, .inr (12, [.int 0, .ref (M 1), .ref (M 2), .ref aw, .ref al, .ref (M 3), .ref (M 4), .ref (M 5), .ref (M 6), .ref y, .int (nI nb), .int (nI ny), .int du, .int mny, .int cl, .int (nI fd), .int ws]))], [(M 6, .inl (G.2.1 0, 6, .inl wd))], [(M 5, .inl (G.2.1 1, 2, .inl sh))]]) rfl (by decide) (by decide) ?_
        rintro _ _ ⟨rfl, rfl⟩
        refine V_if_eq hC dX11_cube_52 (tgt := 65) (by decide) (fun h3 => ?_) (fun h3 => ?_)
        · have hg := moGr_n h3
          refine V_close (i := li i) (g' := fun ι => mcP G (Q ι) (mz ι)) (hli i hi) (rfl) (fun _ _ _ => rfl) ?_
          refine V_aload_n hC dX11_cube_65 1 rfl ?_
          refine V_iconst hC dX11_cube_66 (v := 3) (by decide) ?_
          refine V_calli hC (V_runV hC (rest := []) [.int 3] (c_X11_no l G M 0 du mny cl ws nb ny fd aw al y 3) [2] rfl (by decide) q1141 q1143 q20 q52 q1144 ⟨by decide, by decide, rfl⟩ ⟨by decide, by decide⟩ (ci := 12) rfl (mem_at 2 0 rfl rfl) rfl (Nat.le_of_ble_eq_true rfl) ⟨by decide, by decide⟩ dX11_cube_67) (is := [2]) rfl [0, 1, 3, 4] (rs := [famW NC (fun ι => mcP G (Q ι) (mz ι)), alP G al bl ml Nl nl (fun κ => (Q (li κ)) 0), [(M 6, .inl (G.2.1 0, 6, .inl wd))], [(M 5, .inl (G.2.1 1, 2, .inl sh))]]) rfl (by decide) (by decide) ?_
          rintro _ _ ⟨rfl, rfl⟩
          exact V_iret hC hQ hr [0, 2, 1, 3, 4] (u := [[(M 0, .inr (12, [.int 3, .ref (M 1), .ref (M 2), .ref aw, .ref al, .ref (M 3), .ref (M 4), .ref (M 5), .ref (M 6), .ref y, .int (nI nb), .int (nI ny), .int du, .int mny, .int cl, .int (nI fd), .int ws]))], alP G al bl ml Nl nl (fun κ => (Q (li κ)) 0), famW NC (fun ι => mcP G (Q ι) (mz ι)), [(M 6, .inl (G.2.1 0, 6, .inl wd))], [(M 5, .inl (G.2.1 1, 2, .inl sh))]]) (by decide) rfl (by decide) (by decide) dX11_cube_70 (Or.inl ⟨3, Or.inr (Or.inr ⟨rfl, hib, hx, by rw [nI_clamp (by omega), nI_clamp (by omega)]; first | exact Or.inl hg | exact Or.inr hg⟩), rfl, rfl⟩)
        · have hg := moGr_y h3
          obtain ⟨hj, hzj⟩ := hsj i hi hg
          refine V_aload_n hC dX11_cube_55 0 rfl ?_
          refine V_get hC dX11_cube_56 inAX9 (mem_at 0 0 rfl rfl) rfl 11 (by decide) q1010 rfl (v := .ref ((Q (li i)) 3)) rfl ?_
          refine V_iload_n hC dX11_cube_59 3 rfl ?_
          refine V_iald hC dX11_cube_60 (mem_at 0 3 rfl rfl) (vin (by decide)) (x := 0) (by decide) ?_
          refine V_iconst hC dX11_cube_61 (v := (-1)) (by decide) ?_
          refine V_icmp_eq hC dX11_cube_62 (tgt := 71) (by decide) (fun h4 => ?_) (fun h4 => ?_)
          · refine V_aload_n hC dX11_cube_71 0 rfl ?_
            refine V_get hC dX11_cube_72 inAX9 (mem_at 0 0 rfl rfl) rfl 11 (by decide) q1010 rfl (v := .ref ((Q (li i)) 3)) rfl ?_
            refine V_iload_n hC dX11_cube_75 3 rfl ?_
            refine V_aload_n hC dX11_cube_76 0 rfl ?_
            refine V_iload_n hC dX11_cube_77 3 rfl ?_
            refine V_calli hC (V_runV hC (rest := [.int (nI 0), .ref ((Q (li i)) 3)]) [.int (nI 0)] (c_X9_strength l G (Q (li i)) (mz (li i)) (nI 0)) [0] rfl (by decide) q1382 q1383 q1384 q57 q1385 ⟨by decide, by decide, rfl⟩ ⟨by decide, by decide⟩ (ci := 10) rfl (mem_at 0 0 rfl rfl) rfl (Nat.le_of_ble_eq_true rfl) ⟨by decide, by decide⟩ dX11_cube_78) (is := [0]) rfl [1, 2, 3, 4, 5] (rs := [famX NC (li i) (fun ι => mcP G (Q ι) (mz ι)), alP G al bl ml Nl nl (fun κ => (Q (li κ)) 0), [(M 0, .inr (12, [.int 0, .ref (M 1), .ref (M 2), .ref aw, .ref al, .ref (M 3), .ref (M 4), .ref (M 5), .ref (M 6), .ref y, .int (nI nb), .int (nI ny), .int du, .int mny, .int cl, .int (nI fd), .int ws]))], [(M 6, .inl (G.2.1 0, 6, .inl wd))], [(M 5, .inl (G.2.1 1, 2, .inl sh))]]) rfl (by decide) (by decide) ?_
            rintro _ _ ⟨rfl, rfl⟩
            refine V_iast hC dX11_cube_81 0 3 rfl rfl (vin (by decide)) (z := 0) (by decide) (ps' := [mcP G (Q (li i)) (hv9 (((mz (li i)).1) 0) (((mz (li i)).1) 1) (((mz (li i)).1) 2) (((mz (li i)).1) 3) (((mz (li i)).1) 4) (((mz (li i)).1) 5) (((mz (li i)).1) 6) (((mz (li i)).1) 7) (((mz (li i)).1) 8), (mz (li i)).2.1, (mz (li i)).2.2.1, upd ((mz (li i)).2.2.2) 0 (moStr (mz (li i)) (nI 0))), famX NC (li i) (fun ι => mcP G (Q ι) (mz ι)), alP G al bl ml Nl nl (fun κ => (Q (li κ)) 0), [(M 0, .inr (12, [.int 0, .ref (M 1), .ref (M 2), .ref aw, .ref al, .ref (M 3), .ref (M 4), .ref (M 5), .ref (M 6), .ref y, .int (nI nb), .int (nI ny), .int du, .int mny, .int cl, .int (nI fd), .int ws]))], [(M 6, .inl (G.2.1 0, 6, .inl wd))], [(M 5, .inl (G.2.1 1, 2, .inl sh))]]) rfl ?_
            refine V_psEq (ps' := [mcP G (Q (li i)) (mvC (mz (li i)) 0), famX NC (li i) (fun ι => mcP G (Q ι) (mz ι)), alP G al bl ml Nl nl (fun κ => (Q (li κ)) 0), [(M 0, .inr (12, [.int 0, .ref (M 1), .ref (M 2), .ref aw, .ref al, .ref (M 3), .ref (M 4), .ref (M 5), .ref (M 6), .ref y, .int (nI nb), .int (nI ny), .int du, .int mny, .int cl, .int (nI fd), .int ws]))], [(M 6, .inl (G.2.1 0, 6, .inl wd))], [(M 5, .inl (G.2.1 1, 2, .inl sh))]]) rfl ?_
            refine V_close (i := li i) (g' := fun ι => mcP G (Q ι) ((va_up mz (li i) (mvC (mz (li i)) 0)) ι)) (hli i hi) (by simp [va_up]) (fun j _ hne => by simp [va_up, hne]) ?_
            refine V_iload_n hC dX11_cube_82 3 rfl ?_
            refine V_iconst hC dX11_cube_83 (v := 2) (by decide) ?_
            refine V_icmp_geF hC dX11_cube_84 (tgt := 94) (by decide) (by decide) ?_
            refine V_aload_n hC dX11_cube_87 0 rfl ?_
            refine V_get hC dX11_cube_88 inAX9 (mem_fam 0 0 rfl (li i) ((hli i hi)) rfl) rfl 11 (by decide) q1010 rfl (v := .ref ((Q (li i)) 3)) rfl ?_
            refine V_iload_n hC dX11_cube_91 3 rfl ?_
            refine V_iald hC dX11_cube_92 (mem_fam 0 3 rfl (li i) ((hli i hi)) rfl) (vin (by decide)) (x := 0) (by decide) ?_
            refine V_eqi (y := moStr (mz (li i)) (nI 0)) (by rw [va_up_eq]; rfl) ?_
            exact V_iret hC hQ hr [2, 1, 0, 3, 4] (u := [[(M 0, .inr (12, [.int 0, .ref (M 1), .ref (M 2), .ref aw, .ref al, .ref (M 3), .ref (M 4), .ref (M 5), .ref (M 6), .ref y, .int (nI nb), .int (nI ny), .int du, .int mny, .int cl, .int (nI fd), .int ws]))], alP G al bl ml Nl nl (fun κ => (Q (li κ)) 0), famW NC (fun ι => mcP G (Q ι) ((va_up mz (li i) (mvC (mz (li i)) 0)) ι)), [(M 6, .inl (G.2.1 0, 6, .inl wd))], [(M 5, .inl (G.2.1 1, 2, .inl sh))]]) (by decide) rfl (by decide) (by decide) dX11_cube_93 (Or.inr ⟨i, 0, sj i, hi, rfl, by decide, rfl, hj, hzj, h4, rfl, rfl⟩)
          · refine V_close (i := li i) (g' := fun ι => mcP G (Q ι) (mz ι)) (hli i hi) (rfl) (fun _ _ _ => rfl) ?_
            refine V_aload_n hC dX11_cube_65 1 rfl ?_
            refine V_iconst hC dX11_cube_66 (v := 3) (by decide) ?_
            refine V_calli hC (V_runV hC (rest := []) [.int 3] (c_X11_no l G M 0 du mny cl ws nb ny fd aw al y 3) [2] rfl (by decide) q1141 q1143 q20 q52 q1144 ⟨by decide, by decide, rfl⟩ ⟨by decide, by decide⟩ (ci := 12) rfl (mem_at 2 0 rfl rfl) rfl (Nat.le_of_ble_eq_true rfl) ⟨by decide, by decide⟩ dX11_cube_67) (is := [2]) rfl [0, 1, 3, 4] (rs := [famW NC (fun ι => mcP G (Q ι) (mz ι)), alP G al bl ml Nl nl (fun κ => (Q (li κ)) 0), [(M 6, .inl (G.2.1 0, 6, .inl wd))], [(M 5, .inl (G.2.1 1, 2, .inl sh))]]) rfl (by decide) (by decide) ?_
            rintro _ _ ⟨rfl, rfl⟩
            exact V_iret hC hQ hr [0, 2, 1, 3, 4] (u := [[(M 0, .inr (12, [.int 3, .ref (M 1), .ref (M 2), .ref aw, .ref al, .ref (M 3), .ref (M 4), .ref (M 5), .ref (M 6), .ref y, .int (nI nb), .int (nI ny), .int du, .int mny, .int cl, .int (nI fd), .int ws]))], alP G al bl ml Nl nl (fun κ => (Q (li κ)) 0), famW NC (fun ι => mcP G (Q ι) (mz ι)), [(M 6, .inl (G.2.1 0, 6, .inl wd))], [(M 5, .inl (G.2.1 1, 2, .inl sh))]]) (by decide) rfl (by decide) (by decide) dX11_cube_70 (Or.inl ⟨3, Or.inr (Or.inr ⟨rfl, hib, hx, by rw [nI_clamp (by omega), nI_clamp (by omega)]; first | exact Or.inl hg | exact Or.inr h4⟩), rfl, rfl⟩)
      · refine V_aload_n hC dX11_cube_34 0 rfl ?_
        refine V_get hC dX11_cube_35 inAX11 (mem_at 0 0 rfl rfl) rfl 4 (by decide) q1082 rfl (v := .ref al) rfl ?_
        refine V_iload_n hC dX11_cube_38 1 rfl ?_
        refine V_callFr hC (V_runF hC (rest := []) [.int (nI i)] (Mr_sz (c_al_get l G al bl ml Nl nl (fun κ => (Q (li κ)) 0) i hi hlk.1 (by have := hlk.2; omega))) [1] rfl (by decide) q1298 (by decide +kernel) q1303 q1301 q55 q1305 ⟨by decide, by decide, rfl⟩ ⟨by decide, by decide⟩ rfl (mem_at 1 0 rfl rfl) rfl (Nat.le_of_ble_eq_true rfl) ⟨by decide, by decide⟩ dX11_cube_39) (is := [1]) rfl [0, 2, 3, 4] (rs := [[(M 0, .inr (12, [.int 0, .ref (M 1), .ref (M 2), .ref aw, .ref al, .ref (M 3), .ref (M 4), .ref (M 5), .ref (M 6), .ref y, .int (nI nb), .int (nI ny), .int du, .int mny, .int cl, .int (nI fd), .int ws]))], famW NC (fun ι => mcP G (Q ι) (mz ι)), [(M 6, .inl (G.2.1 0, 6, .inl wd))], [(M 5, .inl (G.2.1 1, 2, .inl sh))]]) rfl (by decide) (by decide) ?_
        rintro _ _ ⟨rfl, rfl⟩
        refine V_cast hC dX11_cube_44 q1183 (ci := 10) rfl (mem_fam 2 0 rfl (li i) ((hli i hi)) rfl) ?_
        refine V_astore_n hC dX11_cube_47 (L' := [(3, .ref ((Q (li i)) 0)), (0, .ref (M 0)), (1, .int (nI i)), (2, .int (nI 1))]) (by decide) rfl ?_
        refine V_aload_n hC dX11_cube_48 0 rfl ?_
        refine V_sub [2, 0, 1, 3, 4] (by decide) (u := [famW NC (fun ι => mcP G (Q ι) (mz ι)), alP G al bl ml Nl nl (fun κ => (Q (li κ)) 0), [(M 0, .inr (12, [.int 0, .ref (M 1), .ref (M 2), .ref aw, .ref al, .ref (M 3), .ref (M 4), .ref (M 5), .ref (M 6), .ref y, .int (nI nb), .int (nI ny), .int du, .int mny, .int cl, .int (nI fd), .int ws]))], [(M 6, .inl (G.2.1 0, 6, .inl wd))], [(M 5, .inl (G.2.1 1, 2, .inl sh))]]) rfl ?_
        refine V_open (i := li i) (hli i hi) ?_
        refine V_calli hC (V_runV hC (rest := []) [] (c_X9_isGround l G (Q (li i)) (mz (li i))) [0] rfl (by decide) q1362 q1363 q1364 q57 q1365 ⟨by decide, by decide, rfl⟩ ⟨by decide, by decide⟩ (ci := 10) rfl (mem_at 0 0 rfl rfl) rfl (Nat.le_of_ble_eq_true rfl) ⟨by decide, by decide⟩ dX11_cube_49) (is := [0]) rfl [1, 2, 3, 4, 5] (rs := [famX NC (li i) (fun ι => mcP G (Q ι) (mz ι)), alP G al bl ml Nl nl (fun κ => (Q (li κ)) 0), [(M 0, .inr (12, [.int 0, .ref (M 1), .ref (M 2), .ref aw, .ref al, .ref (M 3), .ref (M 4), .ref (M 5), .ref (M 6), .ref y, .int (nI nb), .int (nI ny), .int du, .int mny, .int cl, .int (nI fd), .int ws]))], [(M 6, .inl (G.2.1 0, 6, .inl wd))], [(M 5, .inl (G.2.1 1, 2, .inl sh))]]) rfl (by decide) (by decide) ?_
        rintro _ _ ⟨rfl, rfl⟩
        refine V_if_eq hC dX11_cube_52 (tgt := 65) (by decide) (fun h5 => ?_) (fun h5 => ?_)
        · have hg := moGr_n h5
          refine V_close (i := li i) (g' := fun ι => mcP G (Q ι) (mz ι)) (hli i hi) (rfl) (fun _ _ _ => rfl) ?_
          refine V_aload_n hC dX11_cube_65 1 rfl ?_
          refine V_iconst hC dX11_cube_66 (v := 3) (by decide) ?_
          refine V_calli hC (V_runV hC (rest := []) [.int 3] (c_X11_no l G M 0 du mny cl ws nb ny fd aw al y 3) [2] rfl (by decide) q1141 q1143 q20 q52 q1144 ⟨by decide, by decide, rfl⟩ ⟨by decide, by decide⟩ (ci := 12) rfl (mem_at 2 0 rfl rfl) rfl (Nat.le_of_ble_eq_true rfl) ⟨by decide, by decide⟩ dX11_cube_67) (is := [2]) rfl [0, 1, 3, 4] (rs := [famW NC (fun ι => mcP G (Q ι) (mz ι)), alP G al bl ml Nl nl (fun κ => (Q (li κ)) 0), [(M 6, .inl (G.2.1 0, 6, .inl wd))], [(M 5, .inl (G.2.1 1, 2, .inl sh))]]) rfl (by decide) (by decide) ?_
          rintro _ _ ⟨rfl, rfl⟩
          exact V_iret hC hQ hr [0, 2, 1, 3, 4] (u := [[(M 0, .inr (12, [.int 3, .ref (M 1), .ref (M 2), .ref aw, .ref al, .ref (M 3), .ref (M 4), .ref (M 5), .ref (M 6), .ref y, .int (nI nb), .int (nI ny), .int du, .int mny, .int cl, .int (nI fd), .int ws]))], alP G al bl ml Nl nl (fun κ => (Q (li κ)) 0), famW NC (fun ι => mcP G (Q ι) (mz ι)), [(M 6, .inl (G.2.1 0, 6, .inl wd))], [(M 5, .inl (G.2.1 1, 2, .inl sh))]]) (by decide) rfl (by decide) (by decide) dX11_cube_70 (Or.inl ⟨3, Or.inr (Or.inr ⟨rfl, hib, hx, by rw [nI_clamp (by omega), nI_clamp (by omega)]; first | exact Or.inl hg | exact Or.inr hg⟩), rfl, rfl⟩)
        · have hg := moGr_y h5
          obtain ⟨hj, hzj⟩ := hsj i hi hg
          refine V_aload_n hC dX11_cube_55 0 rfl ?_
          refine V_get hC dX11_cube_56 inAX9 (mem_at 0 0 rfl rfl) rfl 11 (by decide) q1010 rfl (v := .ref ((Q (li i)) 3)) rfl ?_
          refine V_iload_n hC dX11_cube_59 3 rfl ?_
          refine V_iald hC dX11_cube_60 (mem_at 0 3 rfl rfl) (vin (by decide)) (x := 1) (by decide) ?_
          refine V_iconst hC dX11_cube_61 (v := (-1)) (by decide) ?_
          refine V_icmp_eq hC dX11_cube_62 (tgt := 71) (by decide) (fun h6 => ?_) (fun h6 => ?_)
          · refine V_aload_n hC dX11_cube_71 0 rfl ?_
            refine V_get hC dX11_cube_72 inAX9 (mem_at 0 0 rfl rfl) rfl 11 (by decide) q1010 rfl (v := .ref ((Q (li i)) 3)) rfl ?_
            refine V_iload_n hC dX11_cube_75 3 rfl ?_
            refine V_aload_n hC dX11_cube_76 0 rfl ?_
            refine V_iload_n hC dX11_cube_77 3 rfl ?_
            refine V_calli hC (V_runV hC (rest := [.int (nI 1), .ref ((Q (li i)) 3)]) [.int (nI 1)] (c_X9_strength l G (Q (li i)) (mz (li i)) (nI 1)) [0] rfl (by decide) q1382 q1383 q1384 q57 q1385 ⟨by decide, by decide, rfl⟩ ⟨by decide, by decide⟩ (ci := 10) rfl (mem_at 0 0 rfl rfl) rfl (Nat.le_of_ble_eq_true rfl) ⟨by decide, by decide⟩ dX11_cube_78) (is := [0]) rfl [1, 2, 3, 4, 5] (rs := [famX NC (li i) (fun ι => mcP G (Q ι) (mz ι)), alP G al bl ml Nl nl (fun κ => (Q (li κ)) 0), [(M 0, .inr (12, [.int 0, .ref (M 1), .ref (M 2), .ref aw, .ref al, .ref (M 3), .ref (M 4), .ref (M 5), .ref (M 6), .ref y, .int (nI nb), .int (nI ny), .int du, .int mny, .int cl, .int (nI fd), .int ws]))], [(M 6, .inl (G.2.1 0, 6, .inl wd))], [(M 5, .inl (G.2.1 1, 2, .inl sh))]]) rfl (by decide) (by decide) ?_
            rintro _ _ ⟨rfl, rfl⟩
            refine V_iast hC dX11_cube_81 0 3 rfl rfl (vin (by decide)) (z := 1) (by decide) (ps' := [mcP G (Q (li i)) (hv9 (((mz (li i)).1) 0) (((mz (li i)).1) 1) (((mz (li i)).1) 2) (((mz (li i)).1) 3) (((mz (li i)).1) 4) (((mz (li i)).1) 5) (((mz (li i)).1) 6) (((mz (li i)).1) 7) (((mz (li i)).1) 8), (mz (li i)).2.1, (mz (li i)).2.2.1, upd ((mz (li i)).2.2.2) 1 (moStr (mz (li i)) (nI 1))), famX NC (li i) (fun ι => mcP G (Q ι) (mz ι)), alP G al bl ml Nl nl (fun κ => (Q (li κ)) 0), [(M 0, .inr (12, [.int 0, .ref (M 1), .ref (M 2), .ref aw, .ref al, .ref (M 3), .ref (M 4), .ref (M 5), .ref (M 6), .ref y, .int (nI nb), .int (nI ny), .int du, .int mny, .int cl, .int (nI fd), .int ws]))], [(M 6, .inl (G.2.1 0, 6, .inl wd))], [(M 5, .inl (G.2.1 1, 2, .inl sh))]]) rfl ?_
            refine V_psEq (ps' := [mcP G (Q (li i)) (mvC (mz (li i)) 1), famX NC (li i) (fun ι => mcP G (Q ι) (mz ι)), alP G al bl ml Nl nl (fun κ => (Q (li κ)) 0), [(M 0, .inr (12, [.int 0, .ref (M 1), .ref (M 2), .ref aw, .ref al, .ref (M 3), .ref (M 4), .ref (M 5), .ref (M 6), .ref y, .int (nI nb), .int (nI ny), .int du, .int mny, .int cl, .int (nI fd), .int ws]))], [(M 6, .inl (G.2.1 0, 6, .inl wd))], [(M 5, .inl (G.2.1 1, 2, .inl sh))]]) rfl ?_
            refine V_close (i := li i) (g' := fun ι => mcP G (Q ι) ((va_up mz (li i) (mvC (mz (li i)) 1)) ι)) (hli i hi) (by simp [va_up]) (fun j _ hne => by simp [va_up, hne]) ?_
            refine V_iload_n hC dX11_cube_82 3 rfl ?_
            refine V_iconst hC dX11_cube_83 (v := 2) (by decide) ?_
            refine V_icmp_geF hC dX11_cube_84 (tgt := 94) (by decide) (by decide) ?_
            refine V_aload_n hC dX11_cube_87 0 rfl ?_
            refine V_get hC dX11_cube_88 inAX9 (mem_fam 0 0 rfl (li i) ((hli i hi)) rfl) rfl 11 (by decide) q1010 rfl (v := .ref ((Q (li i)) 3)) rfl ?_
            refine V_iload_n hC dX11_cube_91 3 rfl ?_
            refine V_iald hC dX11_cube_92 (mem_fam 0 3 rfl (li i) ((hli i hi)) rfl) (vin (by decide)) (x := 1) (by decide) ?_
            refine V_eqi (y := moStr (mz (li i)) (nI 1)) (by rw [va_up_eq]; rfl) ?_
            exact V_iret hC hQ hr [2, 1, 0, 3, 4] (u := [[(M 0, .inr (12, [.int 0, .ref (M 1), .ref (M 2), .ref aw, .ref al, .ref (M 3), .ref (M 4), .ref (M 5), .ref (M 6), .ref y, .int (nI nb), .int (nI ny), .int du, .int mny, .int cl, .int (nI fd), .int ws]))], alP G al bl ml Nl nl (fun κ => (Q (li κ)) 0), famW NC (fun ι => mcP G (Q ι) ((va_up mz (li i) (mvC (mz (li i)) 1)) ι)), [(M 6, .inl (G.2.1 0, 6, .inl wd))], [(M 5, .inl (G.2.1 1, 2, .inl sh))]]) (by decide) rfl (by decide) (by decide) dX11_cube_93 (Or.inr ⟨i, 1, sj i, hi, rfl, by decide, rfl, hj, hzj, h6, rfl, rfl⟩)
          · refine V_close (i := li i) (g' := fun ι => mcP G (Q ι) (mz ι)) (hli i hi) (rfl) (fun _ _ _ => rfl) ?_
            refine V_aload_n hC dX11_cube_65 1 rfl ?_
            refine V_iconst hC dX11_cube_66 (v := 3) (by decide) ?_
            refine V_calli hC (V_runV hC (rest := []) [.int 3] (c_X11_no l G M 0 du mny cl ws nb ny fd aw al y 3) [2] rfl (by decide) q1141 q1143 q20 q52 q1144 ⟨by decide, by decide, rfl⟩ ⟨by decide, by decide⟩ (ci := 12) rfl (mem_at 2 0 rfl rfl) rfl (Nat.le_of_ble_eq_true rfl) ⟨by decide, by decide⟩ dX11_cube_67) (is := [2]) rfl [0, 1, 3, 4] (rs := [famW NC (fun ι => mcP G (Q ι) (mz ι)), alP G al bl ml Nl nl (fun κ => (Q (li κ)) 0), [(M 6, .inl (G.2.1 0, 6, .inl wd))], [(M 5, .inl (G.2.1 1, 2, .inl sh))]]) rfl (by decide) (by decide) ?_
            rintro _ _ ⟨rfl, rfl⟩
            exact V_iret hC hQ hr [0, 2, 1, 3, 4] (u := [[(M 0, .inr (12, [.int 3, .ref (M 1), .ref (M 2), .ref aw, .ref al, .ref (M 3), .ref (M 4), .ref (M 5), .ref (M 6), .ref y, .int (nI nb), .int (nI ny), .int du, .int mny, .int cl, .int (nI fd), .int ws]))], alP G al bl ml Nl nl (fun κ => (Q (li κ)) 0), famW NC (fun ι => mcP G (Q ι) (mz ι)), [(M 6, .inl (G.2.1 0, 6, .inl wd))], [(M 5, .inl (G.2.1 1, 2, .inl sh))]]) (by decide) rfl (by decide) (by decide) dX11_cube_70 (Or.inl ⟨3, Or.inr (Or.inr ⟨rfl, hib, hx, by rw [nI_clamp (by omega), nI_clamp (by omega)]; first | exact Or.inl hg | exact Or.inr h6⟩), rfl, rfl⟩)
      · refine V_aload_n hC dX11_cube_34 0 rfl ?_
        refine V_get hC dX11_cube_35 inAX11 (mem_at 0 0 rfl rfl) rfl 4 (by decide) q1082 rfl (v := .ref al) rfl ?_
        refine V_iload_n hC dX11_cube_38 1 rfl ?_
        refine V_callFr hC (V_runF hC (rest := []) [.int (nI i)] (Mr_sz (c_al_get l G al bl ml Nl nl (fun κ => (Q (li κ)) 0) i hi hlk.1 (by have := hlk.2; omega))) [1] rfl (by decide) q1298 (by decide +kernel) q1303 q1301 q55 q1305 ⟨by decide, by decide, rfl⟩ ⟨by decide, by decide⟩ rfl (mem_at 1 0 rfl rfl) rfl (Nat.le_of_ble_eq_true rfl) ⟨by decide, by decide⟩ dX11_cube_39) (is := [1]) rfl [0, 2, 3, 4] (rs := [[(M 0, .inr (12, [.int 0, .ref (M 1), .ref (M 2), .ref aw, .ref al, .ref (M 3), .ref (M 4), .ref (M 5), .ref (M 6), .ref y, .int (nI nb), .int (nI ny), .int du, .int mny, .int cl, .int (nI fd), .int ws]))], famW NC (fun ι => mcP G (Q ι) (mz ι)), [(M 6, .inl (G.2.1 0, 6, .inl wd))], [(M 5, .inl (G.2.1 1, 2, .inl sh))]]) rfl (by decide) (by decide) ?_
        rintro _ _ ⟨rfl, rfl⟩
        refine V_cast hC dX11_cube_44 q1183 (ci := 10) rfl (mem_fam 2 0 rfl (li i) ((hli i hi)) rfl) ?_
        refine V_astore_n hC dX11_cube_47 (L' := [(3, .ref ((Q (li i)) 0)), (0, .ref (M 0)), (1, .int (nI i)), (2, .int (nI 2))]) (by decide) rfl ?_
        refine V_aload_n hC dX11_cube_48 0 rfl ?_
        refine V_sub [2, 0, 1, 3, 4] (by decide) (u := [famW NC (fun ι => mcP G (Q ι) (mz ι)), alP G al bl ml Nl nl (fun κ => (Q (li κ)) 0), [(M 0, .inr (12, [.int 0, .ref (M 1), .ref (M 2), .ref aw, .ref al, .ref (M 3), .ref (M 4), .ref (M 5), .ref (M 6), .ref y, .int (nI nb), .int (nI ny), .int du, .int mny, .int cl, .int (nI fd), .int ws]))], [(M 6, .inl (G.2.1 0, 6, .inl wd))], [(M 5, .inl (G.2.1 1, 2, .inl sh))]]) rfl ?_
        refine V_open (i := li i) (hli i hi) ?_
        refine V_calli hC (V_runV hC (rest := []) [] (c_X9_isGround l G (Q (li i)) (mz (li i))) [0] rfl (by decide) q1362 q1363 q1364 q57 q1365 ⟨by decide, by decide, rfl⟩ ⟨by decide, by decide⟩ (ci := 10) rfl (mem_at 0 0 rfl rfl) rfl (Nat.le_of_ble_eq_true rfl) ⟨by decide, by decide⟩ dX11_cube_49) (is := [0]) rfl [1, 2, 3, 4, 5] (rs := [famX NC (li i) (fun ι => mcP G (Q ι) (mz ι)), alP G al bl ml Nl nl (fun κ => (Q (li κ)) 0), [(M 0, .inr (12, [.int 0, .ref (M 1), .ref (M 2), .ref aw, .ref al, .ref (M 3), .ref (M 4), .ref (M 5), .ref (M 6), .ref y, .int (nI nb), .int (nI ny), .int du, .int mny, .int cl, .int (nI fd), .int ws]))], [(M 6, .inl (G.2.1 0, 6, .inl wd))], [(M 5, .inl (G.2.1 1, 2, .inl sh))]]) rfl (by decide) (by decide) ?_
        rintro _ _ ⟨rfl, rfl⟩
        refine V_if_eq hC dX11_cube_52 (tgt := 65) (by decide) (fun h7 => ?_) (fun h7 => ?_)
        · have hg := moGr_n h7
          refine V_close (i := li i) (g' := fun ι => mcP G (Q ι) (mz ι)) (hli i hi) (rfl) (fun _ _ _ => rfl) ?_
          refine V_aload_n hC dX11_cube_65 1 rfl ?_
          refine V_iconst hC dX11_cube_66 (v := 3) (by decide) ?_
          refine V_calli hC (V_runV hC (rest := []) [.int 3] (c_X11_no l G M 0 du mny cl ws nb ny fd aw al y 3) [2] rfl (by decide) q1141 q1143 q20 q52 q1144 ⟨by decide, by decide, rfl⟩ ⟨by decide, by decide⟩ (ci := 12) rfl (mem_at 2 0 rfl rfl) rfl (Nat.le_of_ble_eq_true rfl) ⟨by decide, by decide⟩ dX11_cube_67) (is := [2]) rfl [0, 1, 3, 4] (rs := [famW NC (fun ι => mcP G (Q ι) (mz ι)), alP G al bl ml Nl nl (fun κ => (Q (li κ)) 0), [(M 6, .inl (G.2.1 0, 6, .inl wd))], [(M 5, .inl (G.2.1 1, 2, .inl sh))]]) rfl (by decide) (by decide) ?_
          rintro _ _ ⟨rfl, rfl⟩
          exact V_iret hC hQ hr [0, 2, 1, 3, 4] (u := [[(M 0, .inr (12, [.int 3, .ref (M 1), .ref (M 2), .ref aw, .ref al, .ref (M 3), .ref (M 4), .ref (M 5), .ref (M 6), .ref y, .int (nI nb), .int (nI ny), .int du, .int mny, .int cl, .int (nI fd), .int ws]))], alP G al bl ml Nl nl (fun κ => (Q (li κ)) 0), famW NC (fun ι => mcP G (Q ι) (mz ι)), [(M 6, .inl (G.2.1 0, 6, .inl wd))], [(M 5, .inl (G.2.1 1, 2, .inl sh))]]) (by decide) rfl (by decide) (by decide) dX11_cube_70 (Or.inl ⟨3, Or.inr (Or.inr ⟨rfl, hib, hx, by rw [nI_clamp (by omega), nI_clamp (by omega)]; first | exact Or.inl hg | exact Or.inr hg⟩), rfl, rfl⟩)
        · have hg := moGr_y h7
          obtain ⟨hj, hzj⟩ := hsj i hi hg
          refine V_aload_n hC dX11_cube_55 0 rfl ?_
          refine V_get hC dX11_cube_56 inAX9 (mem_at 0 0 rfl rfl) rfl 11 (by decide) q1010 rfl (v := .ref ((Q (li i)) 3)) rfl ?_
          refine V_iload_n hC dX11_cube_59 3 rfl ?_
          refine V_iald hC dX11_cube_60 (mem_at 0 3 rfl rfl) (vin (by decide)) (x := 2) (by decide) ?_
          refine V_iconst hC dX11_cube_61 (v := (-1)) (by decide) ?_
          refine V_icmp_eq hC dX11_cube_62 (tgt := 71) (by decide) (fun h8 => ?_) (fun h8 => ?_)
          · refine V_aload_n hC dX11_cube_71 0 rfl ?_
            refine V_get hC dX11_cube_72 inAX9 (mem_at 0 0 rfl rfl) rfl 11 (by decide) q1010 rfl (v := .ref ((Q (li i)) 3)) rfl ?_
            refine V_iload_n hC dX11_cube_75 3 rfl ?_
            refine V_aload_n hC dX11_cube_76 0 rfl ?_
            refine V_iload_n hC dX11_cube_77 3 rfl ?_
            refine V_calli hC (V_runV hC (rest := [.int (nI 2), .ref ((Q (li i)) 3)]) [.int (nI 2)] (c_X9_strength l G (Q (li i)) (mz (li i)) (nI 2)) [0] rfl (by decide) q1382 q1383 q1384 q57 q1385 ⟨by decide, by decide, rfl⟩ ⟨by decide, by decide⟩ (ci := 10) rfl (mem_at 0 0 rfl rfl) rfl (Nat.le_of_ble_eq_true rfl) ⟨by decide, by decide⟩ dX11_cube_78) (is := [0]) rfl [1, 2, 3, 4, 5] (rs := [famX NC (li i) (fun ι => mcP G (Q ι) (mz ι)), alP G al bl ml Nl nl (fun κ => (Q (li κ)) 0), [(M 0, .inr (12, [.int 0, .ref (M 1), .ref (M 2), .ref aw, .ref al, .ref (M 3), .ref (M 4), .ref (M 5), .ref (M 6), .ref y, .int (nI nb), .int (nI ny), .int du, .int mny, .int cl, .int (nI fd), .int ws]))], [(M 6, .inl (G.2.1 0, 6, .inl wd))], [(M 5, .inl (G.2.1 1, 2, .inl sh))]]) rfl (by decide) (by decide) ?_
            rintro _ _ ⟨rfl, rfl⟩
            refine V_iast hC dX11_cube_81 0 3 rfl rfl (vin (by decide)) (z := 2) (by decide) (ps' := [mcP G (Q (li i)) (hv9 (((mz (li i)).1) 0) (((mz (li i)).1) 1) (((mz (li i)).1) 2) (((mz (li i)).1) 3) (((mz (li i)).1) 4) (((mz (li i)).1) 5) (((mz (li i)).1) 6) (((mz (li i)).1) 7) (((mz (li i)).1) 8), (mz (li i)).2.1, (mz (li i)).2.2.1, upd ((mz (li i)).2.2.2) 2 (moStr (mz (li i)) (nI 2))), famX NC (li i) (fun ι => mcP G (Q ι) (mz ι)), alP G al bl ml Nl nl (fun κ => (Q (li κ)) 0), [(M 0, .inr (12, [.int 0, .ref (M 1), .ref (M 2), .ref aw, .ref al, .ref (M 3), .ref (M 4), .ref (M 5), .ref (M 6), .ref y, .int (nI nb), .int (nI ny), .int du, .int mny, .int cl, .int (nI fd), .int ws]))], [(M 6, .inl (G.2.1 0, 6, .inl wd))], [(M 5, .inl (G.2.1 1, 2, .inl sh))]]) rfl ?_
            refine V_psEq (ps' := [mcP G (Q (li i)) (mvC (mz (li i)) 2), famX NC (li i) (fun ι => mcP G (Q ι) (mz ι)), alP G al bl ml Nl nl (fun κ => (Q (li κ)) 0), [(M 0, .inr (12, [.int 0, .ref (M 1), .ref (M 2), .ref aw, .ref al, .ref (M 3), .ref (M 4), .ref (M 5), .ref (M 6), .ref y, .int (nI nb), .int (nI ny), .int du, .int mny, .int cl, .int (nI fd), .int ws]))], [(M 6, .inl (G.2.1 0, 6, .inl wd))], [(M 5, .inl (G.2.1 1, 2, .inl sh))]]) rfl ?_
            refine V_close (i := li i) (g' := fun ι => mcP G (Q ι) ((va_up mz (li i) (mvC (mz (li i)) 2)) ι)) (hli i hi) (by simp [va_up]) (fun j _ hne => by simp [va_up, hne]) ?_
            refine V_iload_n hC dX11_cube_82 3 rfl ?_
            refine V_iconst hC dX11_cube_83 (v := 2) (by decide) ?_
            refine V_icmp_geT hC dX11_cube_84 (tgt := 94) (by decide) (by decide) ?_
            refine V_aload_n hC dX11_cube_94 1 rfl ?_
            refine V_get hC dX11_cube_95 inAX11 (mem_at 2 0 rfl rfl) rfl 8 (by decide) q1086 rfl (v := .ref (M 6)) rfl ?_
            refine V_aload_n hC dX11_cube_98 1 rfl ?_
            refine V_dup hC dX11_cube_99 rfl ?_
            refine V_get hC dX11_cube_100 inAX11 (mem_at 2 0 rfl rfl) rfl 15 (by decide) q1093 rfl (v := .int (nI fd)) rfl ?_
            refine V_dup_x1 hC dX11_cube_103 rfl rfl ?_
            refine V_iconst hC dX11_cube_104 (v := 1) (by decide) ?_
            refine V_iadd hC dX11_cube_105 ?_
            refine V_eqi (y := nI (fd + 1)) (nI_1 fd) ?_
            refine V_put hC dX11_cube_106 inAX11 tyX11 tyX11_ok nmX11 2 0 rfl rfl rfl 15 (by decide) q1093 rfl rfl (rfl) (rfl) (Nat.le_of_ble_eq_true rfl) (ps' := [famW NC (fun ι => mcP G (Q ι) ((va_up mz (li i) (mvC (mz (li i)) 2)) ι)), alP G al bl ml Nl nl (fun κ => (Q (li κ)) 0), [(M 0, .inr (12, [.int 0, .ref (M 1), .ref (M 2), .ref aw, .ref al, .ref (M 3), .ref (M 4), .ref (M 5), .ref (M 6), .ref y, .int (nI nb), .int (nI ny), .int du, .int mny, .int cl, .int (nI (fd + 1)), .int ws]))], [(M 6, .inl (G.2.1 0, 6, .inl wd))], [(M 5, .inl (G.2.1 1, 2, .inl sh))]]) rfl ?_
            refine V_bipush hC dX11_cube_109 (v := 6) (by decide) ?_
            refine V_irem hC dX11_cube_111 (by decide) ?_
            refine V_eqi (y := nI (fd % 6)) (pk_rem (d := 6) (by omega) (by omega) (by omega)) ?_
            refine V_aload_n hC dX11_cube_112 0 rfl ?_
            refine V_get hC dX11_cube_113 inAX9 (mem_fam 0 0 rfl (li i) ((hli i hi)) rfl) rfl 11 (by decide) q1010 rfl (v := .ref ((Q (li i)) 3)) rfl ?_
            refine V_iconst hC dX11_cube_116 (v := 2) (by decide) ?_
            refine V_iald hC dX11_cube_117 (mem_fam 0 3 rfl (li i) ((hli i hi)) rfl) (vin (by decide)) (x := 2) (by decide) ?_
            refine V_eqi (y := (moStr (mz (li i)) 2)) (by rw [va_up_eq]; rfl) ?_
            refine V_iast hC dX11_cube_118 3 0 rfl rfl (vp_in_nI (Nat.mod_lt _ (by decide)) (by decide)) (z := fd % 6) (nI_clamp (by have := Nat.mod_lt fd (show 0 < 6 by decide); omega)) (ps' := [famW NC (fun ι => mcP G (Q ι) ((va_up mz (li i) (mvC (mz (li i)) 2)) ι)), alP G al bl ml Nl nl (fun κ => (Q (li κ)) 0), [(M 0, .inr (12, [.int 0, .ref (M 1), .ref (M 2), .ref aw, .ref al, .ref (M 3), .ref (M 4), .ref (M 5), .ref (M 6), .ref y, .int (nI nb), .int (nI ny), .int du, .int mny, .int cl, .int (nI (fd + 1)), .int ws]))], [(M 6, .inl (G.2.1 0, 6, .inl (upd wd (fd % 6) (moStr (mz (li i)) 2))))], [(M 5, .inl (G.2.1 1, 2, .inl sh))]]) rfl ?_
            refine V_aload_n hC dX11_cube_119 1 rfl ?_
            refine V_calli hC (V_runV hC (rest := []) [] (c_X11_conformNow l G M 0 du mny cl ws nb ny (fd + 1) aw al y (upd wd (fd % 6) (moStr (mz (li i)) 2)) (by omega)) [2, 3] rfl (by decide) q1388 q1390 q30 q52 q1391 ⟨by decide, by decide, rfl⟩ ⟨by decide, by decide⟩ (ci := 12) rfl (mem_at 2 0 rfl rfl) rfl (Nat.le_of_ble_eq_true rfl) ⟨by decide, by decide⟩ dX11_cube_120) (is := [2, 3]) rfl [0, 1, 4] (rs := [famW NC (fun ι => mcP G (Q ι) ((va_up mz (li i) (mvC (mz (li i)) 2)) ι)), alP G al bl ml Nl nl (fun κ => (Q (li κ)) 0), [(M 5, .inl (G.2.1 1, 2, .inl sh))]]) rfl (by decide) (by decide) ?_
            rintro _ _ ⟨rfl, rfl⟩
            refine V_if_ne hC dX11_cube_123 (tgt := 160) (by decide) (fun h9 => ?_) (fun h9 => ?_)
            · have hcb := h9
              refine V_aload_n hC dX11_cube_160 0 rfl ?_
              refine V_get hC dX11_cube_161 inAX9 (mem_fam 2 0 rfl (li i) ((hli i hi)) rfl) rfl 11 (by decide) q1010 rfl (v := .ref ((Q (li i)) 3)) rfl ?_
              refine V_iconst hC dX11_cube_164 (v := 2) (by decide) ?_
              refine V_iald hC dX11_cube_165 (mem_fam 2 3 rfl (li i) ((hli i hi)) rfl) (vin (by decide)) (x := 2) (by decide) ?_
              refine V_eqi (y := (moStr (mz (li i)) 2)) (by rw [va_up_eq]; rfl) ?_
              exact V_iret hC hQ hr [0, 3, 2, 1, 4] (u := [[(M 0, .inr (12, [.int 0, .ref (M 1), .ref (M 2), .ref aw, .ref al, .ref (M 3), .ref (M 4), .ref (M 5), .ref (M 6), .ref y, .int (nI nb), .int (nI ny), .int du, .int mny, .int cl, .int (nI (fd + 1)), .int ws]))], alP G al bl ml Nl nl (fun κ => (Q (li κ)) 0), famW NC (fun ι => mcP G (Q ι) ((va_up mz (li i) (mvC (mz (li i)) 2)) ι)), [(M 6, .inl (G.2.1 0, 6, .inl (upd wd (fd % 6) (moStr (mz (li i)) 2))))], [(M 5, .inl (G.2.1 1, 2, .inl sh))]]) (by decide) rfl (by decide) (by decide) dX11_cube_166 (Or.inr ⟨i, 2, sj i, hi, rfl, by decide, rfl, hj, hzj, h8, rfl, by rw [show cmC wd ws fd 2 (moStr (mz (li i)) (nI 2)) cl = cl from if_neg hcb, show cmS wd ws fd 2 (moStr (mz (li i)) (nI 2)) ((mz (li i)).1 8) (sj i) sh = sh from if_neg hcb]; rfl⟩)
            · have hcb := h9
              refine V_aload_n hC dX11_cube_126 1 rfl ?_
              refine V_dup hC dX11_cube_127 rfl ?_
              refine V_get hC dX11_cube_128 inAX11 (mem_at 0 0 rfl rfl) rfl 14 (by decide) q1092 rfl (v := .int cl) rfl ?_
              refine V_iconst hC dX11_cube_131 (v := 1) (by decide) ?_
              refine V_iadd hC dX11_cube_132 ?_
              refine V_put hC dX11_cube_133 inAX11 tyX11 tyX11_ok nmX11 0 0 rfl rfl rfl 14 (by decide) q1092 rfl rfl (rfl) (rfl) (Nat.le_of_ble_eq_true rfl) (ps' := [[(M 0, .inr (12, [.int 0, .ref (M 1), .ref (M 2), .ref aw, .ref al, .ref (M 3), .ref (M 4), .ref (M 5), .ref (M 6), .ref y, .int (nI nb), .int (nI ny), .int du, .int mny, .int (cl + 1), .int (nI (fd + 1)), .int ws]))], [(M 6, .inl (G.2.1 0, 6, .inl (upd wd (fd % 6) (moStr (mz (li i)) 2))))], famW NC (fun ι => mcP G (Q ι) ((va_up mz (li i) (mvC (mz (li i)) 2)) ι)), alP G al bl ml Nl nl (fun κ => (Q (li κ)) 0), [(M 5, .inl (G.2.1 1, 2, .inl sh))]]) rfl ?_
              refine V_aload_n hC dX11_cube_136 1 rfl ?_
              refine V_get hC dX11_cube_137 inAX11 (mem_at 0 0 rfl rfl) rfl 7 (by decide) q1085 rfl (v := .ref (M 5)) rfl ?_
              refine V_aload_n hC dX11_cube_140 0 rfl ?_
              refine V_get hC dX11_cube_141 inAX9 (mem_fam 2 0 rfl (li i) ((hli i hi)) rfl) rfl 9 (by decide) q1006 rfl (v := .int ((((va_up mz (li i) (mvC (mz (li i)) 2)) (li i)).1) 7)) rfl ?_
              refine V_eqi (y := nI (sj i)) (by rw [va_up_eq]; exact hzj) ?_
              refine V_dup2 hC dX11_cube_144 rfl rfl ?_
              refine V_zald hC dX11_cube_145 (mem_at 4 0 rfl rfl) (vp_in_nI (by omega) (by omega)) (x := sj i) (nI_clamp (by omega)) ?_
              refine V_aload_n hC dX11_cube_146 0 rfl ?_
              refine V_get hC dX11_cube_147 inAX9 (mem_fam 2 0 rfl (li i) ((hli i hi)) rfl) rfl 10 (by decide) q1008 rfl (v := .int ((((va_up mz (li i) (mvC (mz (li i)) 2)) (li i)).1) 8)) rfl ?_
              refine V_eqi (y := (mz (li i)).1 8) (by rw [va_up_eq]; rfl) ?_
              refine V_if_le hC dX11_cube_150 (tgt := 157) (by decide) (fun h10 => ?_) (fun h10 => ?_)
              · refine V_iconst hC dX11_cube_157 (v := 0) (by decide) ?_
                refine V_ior hC dX11_cube_158 ?_
                refine V_zast hC dX11_cube_159 4 0 rfl rfl (or01 (hsh (sj i) hj) (by first | exact Or.inl rfl | exact Or.inr rfl)) (vp_in_nI (by omega) (by omega)) (z := sj i) (nI_clamp (by omega)) (ps' := [[(M 0, .inr (12, [.int 0, .ref (M 1), .ref (M 2), .ref aw, .ref al, .ref (M 3), .ref (M 4), .ref (M 5), .ref (M 6), .ref y, .int (nI nb), .int (nI ny), .int du, .int mny, .int (cl + 1), .int (nI (fd + 1)), .int ws]))], [(M 6, .inl (G.2.1 0, 6, .inl (upd wd (fd % 6) (moStr (mz (li i)) 2))))], famW NC (fun ι => mcP G (Q ι) ((va_up mz (li i) (mvC (mz (li i)) 2)) ι)), alP G al bl ml Nl nl (fun κ => (Q (li κ)) 0), [(M 5, .inl (G.2.1 1, 2, .inl (upd sh (sj i) ((sh (sj i)) ||| 0))))]]) rfl ?_
                refine V_aload_n hC dX11_cube_160 0 rfl ?_
                refine V_get hC dX11_cube_161 inAX9 (mem_fam 2 0 rfl (li i) ((hli i hi)) rfl) rfl 11 (by decide) q1010 rfl (v := .ref ((Q (li i)) 3)) rfl ?_
                refine V_iconst hC dX11_cube_164 (v := 2) (by decide) ?_
                refine V_iald hC dX11_cube_165 (mem_fam 2 3 rfl (li i) ((hli i hi)) rfl) (vin (by decide)) (x := 2) (by decide) ?_
                refine V_eqi (y := (moStr (mz (li i)) 2)) (by rw [va_up_eq]; rfl) ?_
                exact V_iret hC hQ hr [0, 3, 2, 1, 4] (u := [[(M 0, .inr (12, [.int 0, .ref (M 1), .ref (M 2), .ref aw, .ref al, .ref (M 3), .ref (M 4), .ref (M 5), .ref (M 6), .ref y, .int (nI nb), .int (nI ny), .int du, .int mny, .int (cl + 1), .int (nI (fd + 1)), .int ws]))], alP G al bl ml Nl nl (fun κ => (Q (li κ)) 0), famW NC (fun ι => mcP G (Q ι) ((va_up mz (li i) (mvC (mz (li i)) 2)) ι)), [(M 6, .inl (G.2.1 0, 6, .inl (upd wd (fd % 6) (moStr (mz (li i)) 2))))], [(M 5, .inl (G.2.1 1, 2, .inl (upd sh (sj i) ((sh (sj i)) ||| 0))))]]) (by decide) rfl (by decide) (by decide) dX11_cube_166 (Or.inr ⟨i, 2, sj i, hi, rfl, by decide, rfl, hj, hzj, h8, rfl, by rw [show cmC wd ws fd 2 (moStr (mz (li i)) (nI 2)) cl = cl + 1 from if_pos hcb, show cmS wd ws fd 2 (moStr (mz (li i)) (nI 2)) ((mz (li i)).1 8) (sj i) sh = upd sh (sj i) (sh (sj i) ||| (if (mz (li i)).1 8 ≤ 0 then 0 else 1)) from if_pos hcb, if_pos h10]; rfl⟩)
              · refine V_iconst hC dX11_cube_153 (v := 1) (by decide) ?_
                refine V_goto hC dX11_cube_154 (tgt := 158) (by decide) ?_
                refine V_ior hC dX11_cube_158 ?_
                refine V_zast hC dX11_cube_159 4 0 rfl rfl (or01 (hsh (sj i) hj) (by first | exact Or.inl rfl | exact Or.inr rfl)) (vp_in_nI (by omega) (by omega)) (z := sj i) (nI_clamp (by omega)) (ps' := [[(M 0, .inr (12, [.int 0, .ref (M 1), .ref (M 2), .ref aw, .ref al, .ref (M 3), .ref (M 4), .ref (M 5), .ref (M 6), .ref y, .int (nI nb), .int (nI ny), .int du, .int mny, .int (cl + 1), .int (nI (fd + 1)), .int ws]))], [(M 6, .inl (G.2.1 0, 6, .inl (upd wd (fd % 6) (moStr (mz (li i)) 2))))], famW NC (fun ι => mcP G (Q ι) ((va_up mz (li i) (mvC (mz (li i)) 2)) ι)), alP G al bl ml Nl nl (fun κ => (Q (li κ)) 0), [(M 5, .inl (G.2.1 1, 2, .inl (upd sh (sj i) ((sh (sj i)) ||| 1))))]]) rfl ?_
                refine V_aload_n hC dX11_cube_160 0 rfl ?_
                refine V_get hC dX11_cube_161 inAX9 (mem_fam 2 0 rfl (li i) ((hli i hi)) rfl) rfl 11 (by decide) q1010 rfl (v := .ref ((Q (li i)) 3)) rfl ?_
                refine V_iconst hC dX11_cube_164 (v := 2) (by decide) ?_
                refine V_iald hC dX11_cube_165 (mem_fam 2 3 rfl (li i) ((hli i hi)) rfl) (vin (by decide)) (x := 2) (by decide) ?_
                refine V_eqi (y := (moStr (mz (li i)) 2)) (by rw [va_up_eq]; rfl) ?_
                exact V_iret hC hQ hr [0, 3, 2, 1, 4] (u := [[(M 0, .inr (12, [.int 0, .ref (M 1), .ref (M 2), .ref aw, .ref al, .ref (M 3), .ref (M 4), .ref (M 5), .ref (M 6), .ref y, .int (nI nb), .int (nI ny), .int du, .int mny, .int (cl + 1), .int (nI (fd + 1)), .int ws]))], alP G al bl ml Nl nl (fun κ => (Q (li κ)) 0), famW NC (fun ι => mcP G (Q ι) ((va_up mz (li i) (mvC (mz (li i)) 2)) ι)), [(M 6, .inl (G.2.1 0, 6, .inl (upd wd (fd % 6) (moStr (mz (li i)) 2))))], [(M 5, .inl (G.2.1 1, 2, .inl (upd sh (sj i) ((sh (sj i)) ||| 1))))]]) (by decide) rfl (by decide) (by decide) dX11_cube_166 (Or.inr ⟨i, 2, sj i, hi, rfl, by decide, rfl, hj, hzj, h8, rfl, by rw [show cmC wd ws fd 2 (moStr (mz (li i)) (nI 2)) cl = cl + 1 from if_pos hcb, show cmS wd ws fd 2 (moStr (mz (li i)) (nI 2)) ((mz (li i)).1 8) (sj i) sh = upd sh (sj i) (sh (sj i) ||| (if (mz (li i)).1 8 ≤ 0 then 0 else 1)) from if_pos hcb, if_neg h10]; rfl⟩)
          · refine V_close (i := li i) (g' := fun ι => mcP G (Q ι) (mz ι)) (hli i hi) (rfl) (fun _ _ _ => rfl) ?_
            refine V_aload_n hC dX11_cube_65 1 rfl ?_
            refine V_iconst hC dX11_cube_66 (v := 3) (by decide) ?_
            refine V_calli hC (V_runV hC (rest := []) [.int 3] (c_X11_no l G M 0 du mny cl ws nb ny fd aw al y 3) [2] rfl (by decide) q1141 q1143 q20 q52 q1144 ⟨by decide, by decide, rfl⟩ ⟨by decide, by decide⟩ (ci := 12) rfl (mem_at 2 0 rfl rfl) rfl (Nat.le_of_ble_eq_true rfl) ⟨by decide, by decide⟩ dX11_cube_67) (is := [2]) rfl [0, 1, 3, 4] (rs := [famW NC (fun ι => mcP G (Q ι) (mz ι)), alP G al bl ml Nl nl (fun κ => (Q (li κ)) 0), [(M 6, .inl (G.2.1 0, 6, .inl wd))], [(M 5, .inl (G.2.1 1, 2, .inl sh))]]) rfl (by decide) (by decide) ?_
            rintro _ _ ⟨rfl, rfl⟩
            exact V_iret hC hQ hr [0, 2, 1, 3, 4] (u := [[(M 0, .inr (12, [.int 3, .ref (M 1), .ref (M 2), .ref aw, .ref al, .ref (M 3), .ref (M 4), .ref (M 5), .ref (M 6), .ref y, .int (nI nb), .int (nI ny), .int du, .int mny, .int cl, .int (nI fd), .int ws]))], alP G al bl ml Nl nl (fun κ => (Q (li κ)) 0), famW NC (fun ι => mcP G (Q ι) (mz ι)), [(M 6, .inl (G.2.1 0, 6, .inl wd))], [(M 5, .inl (G.2.1 1, 2, .inl sh))]]) (by decide) rfl (by decide) (by decide) dX11_cube_70 (Or.inl ⟨3, Or.inr (Or.inr ⟨rfl, hib, hx, by rw [nI_clamp (by omega), nI_clamp (by omega)]; first | exact Or.inl hg | exact Or.inr h8⟩), rfl, rfl⟩)
    · refine V_aload_n hC dX11_cube_28 0 rfl ?_
      refine V_iconst hC dX11_cube_29 (v := 2) (by decide) ?_
      refine V_calli hC (V_runV hC (rest := []) [.int 2] (c_X11_no l G M 0 du mny cl ws nb ny fd aw al y 2) [0] rfl (by decide) q1141 q1143 q20 q52 q1144 ⟨by decide, by decide, rfl⟩ ⟨by decide, by decide⟩ (ci := 12) rfl (mem_at 0 0 rfl rfl) rfl (Nat.le_of_ble_eq_true rfl) ⟨by decide, by decide⟩ dX11_cube_30) (is := [0]) rfl [1, 2, 3, 4] (rs := [alP G al bl ml Nl nl (fun κ => (Q (li κ)) 0), famW NC (fun ι => mcP G (Q ι) (mz ι)), [(M 6, .inl (G.2.1 0, 6, .inl wd))], [(M 5, .inl (G.2.1 1, 2, .inl sh))]]) rfl (by decide) (by decide) ?_
      rintro _ _ ⟨rfl, rfl⟩
      exact V_iret hC hQ hr [0, 1, 2, 3, 4] (u := [[(M 0, .inr (12, [.int 2, .ref (M 1), .ref (M 2), .ref aw, .ref al, .ref (M 3), .ref (M 4), .ref (M 5), .ref (M 6), .ref y, .int (nI nb), .int (nI ny), .int du, .int mny, .int cl, .int (nI fd), .int ws]))], alP G al bl ml Nl nl (fun κ => (Q (li κ)) 0), famW NC (fun ι => mcP G (Q ι) (mz ι)), [(M 6, .inl (G.2.1 0, 6, .inl wd))], [(M 5, .inl (G.2.1 1, 2, .inl sh))]]) (by decide) rfl (by decide) (by decide) dX11_cube_33 (Or.inl ⟨2, Or.inr (Or.inl ⟨rfl, hib, moIn_n h2⟩), rfl, rfl⟩)
  · refine V_aload_n hC dX11_cube_13 0 rfl ?_
    refine V_iconst hC dX11_cube_14 (v := 1) (by decide) ?_
    refine V_calli hC (V_runV hC (rest := []) [.int 1] (c_X11_no l G M 0 du mny cl ws nb ny fd aw al y 1) [0] rfl (by decide) q1141 q1143 q20 q52 q1144 ⟨by decide, by decide, rfl⟩ ⟨by decide, by decide⟩ (ci := 12) rfl (mem_at 0 0 rfl rfl) rfl (Nat.le_of_ble_eq_true rfl) ⟨by decide, by decide⟩ dX11_cube_15) (is := [0]) rfl [1, 2, 3, 4] (rs := [alP G al bl ml Nl nl (fun κ => (Q (li κ)) 0), famW NC (fun ι => mcP G (Q ι) (mz ι)), [(M 6, .inl (G.2.1 0, 6, .inl wd))], [(M 5, .inl (G.2.1 1, 2, .inl sh))]]) rfl (by decide) (by decide) ?_
    rintro _ _ ⟨rfl, rfl⟩
    exact V_iret hC hQ hr [0, 1, 2, 3, 4] (u := [[(M 0, .inr (12, [.int 1, .ref (M 1), .ref (M 2), .ref aw, .ref al, .ref (M 3), .ref (M 4), .ref (M 5), .ref (M 6), .ref y, .int (nI nb), .int (nI ny), .int du, .int mny, .int cl, .int (nI fd), .int ws]))], alP G al bl ml Nl nl (fun κ => (Q (li κ)) 0), famW NC (fun ι => mcP G (Q ι) (mz ι)), [(M 6, .inl (G.2.1 0, 6, .inl wd))], [(M 5, .inl (G.2.1 1, 2, .inl sh))]]) (by decide) rfl (by decide) (by decide) dX11_cube_18 (Or.inl ⟨1, Or.inl ⟨rfl, by first | exact h1 | exact dec_nn h1⟩, rfl, rfl⟩)
