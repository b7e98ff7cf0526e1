/-! ===== the JDK's lists ===== -/
def rfN (c : Nat) (e : Nat → Nat) : Nat → Option Nat := fun i => if i < c then some (e i) else none
theorem rfN_at {c : Nat} {e : Nat → Nat} {i : Nat} (h : i < c) : rfN c e i = some (e i) := if_pos h
theorem rfN_add {c : Nat} {e : Nat → Nat} {x : Nat} : va_up (rfN c e) c (some x) = rfN (c + 1) (va_up e c x) := by
  funext i
  unfold va_up rfN
  by_cases h : i = c
  · subst h; simp
  · rw [if_neg h]
    by_cases h2 : i < c
    · rw [if_pos h2, if_pos (by omega)]
      show some (e i) = some (if i = c then x else e i)
      rw [if_neg h]
    · rw [if_neg h2, if_neg (by omega)]
theorem rfN_0 {e : Nat → Nat} : (fun _ => none : Nat → Option Nat) = rfN 0 e := by
  funext i
  exact (if_neg (Nat.not_lt_zero i)).symm
theorem rfN_rem {c : Nat} {e : Nat → Nat} : va_up (va_cpy (rfN (c + 1) e) (rfN (c + 1) e) 1 0 c) c none = rfN c (fun i => e (i + 1)) := by
  funext i
  unfold va_up
  by_cases h : i = c
  · subst h
    rw [if_pos rfl]
    exact (if_neg (Nat.lt_irrefl _)).symm
  · rw [if_neg h]
    unfold va_cpy rfN
    by_cases h2 : i < c
    · simp [h2, show 1 + i < c + 1 by omega, Nat.add_comm 1 i]
    · simp [h2, show ¬ i < c + 1 by omega]
theorem rfN_rem0 {e : Nat → Nat} : va_up (rfN (0 + 1) e) 0 none = rfN 0 (fun i => e (i + 1)) := by
  funext i
  unfold va_up rfN
  by_cases h : i = 0
  · subst h; rfl
  · rw [if_neg h, if_neg (by omega), if_neg (by omega)]
theorem rfN_cpy {c : Nat} {e : Nat → Nat} : va_cpy (rfN c e) (fun _ => none) 0 0 c = rfN c e := by
  funext i
  unfold va_cpy rfN
  by_cases h2 : i < c
  · simp [h2]
  · simp [h2]
theorem mem_pc {ps : List va_W} (i : Nat) {r : va_W} {x : Nat × va_E} (h : ps[i]? = some r) (h2 : x ∈ r) : x ∈ ps.flatten := List.mem_flatten.mpr ⟨r, List.mem_of_getElem? h, h2⟩
set_option maxHeartbeats 4000000 in
set_option maxRecDepth 100000 in
/-- jdk/internal/util/Preconditions.checkIndex -/
theorem c_J3_checkIndex_8e157 (l : Launch) (G : VG) (i c : Nat) (hi : i < c) (hc : c < 2 ^ 31) : Mi l G yJ3_checkIndex_8e157 cJ3_checkIndex_8e157 3 .int 0 0 0 0 [.int (nI i), .int (nI c), .null] [] (fun r u => r = nI i ∧ u = []) := by
  refine Mi_of (by decide) (Nat.le_of_ble_eq_true rfl) (fun pP eE sS mM aA bB tT cC AA QQ hC hr hnm hQ => ?_)
  refine V_iload_n hC dJ3_checkIndex_8e157_0 0 rfl ?_
  refine V_if_ltF hC dJ3_checkIndex_8e157_1 (tgt := 9) (by decide) (nI_pos (by omega)) ?_
  refine V_iload_n hC dJ3_checkIndex_8e157_4 0 rfl ?_
  refine V_iload_n hC dJ3_checkIndex_8e157_5 1 rfl ?_
  refine V_icmp_ltT hC dJ3_checkIndex_8e157_6 (tgt := 16) (by decide) (nI_lt hi (by omega)) ?_
  refine V_iload_n hC dJ3_checkIndex_8e157_16 0 rfl ?_
  exact V_iret hC hQ hr [] (u := []) (by decide) rfl (by decide) (by decide) dJ3_checkIndex_8e157_17 (⟨rfl, rfl⟩)
set_option maxHeartbeats 4000000 in
set_option maxRecDepth 100000 in
/-- java/util/Objects.checkIndex -/
theorem c_J15_checkIndex_7cf53 (l : Launch) (G : VG) (i c : Nat) (hi : i < c) (hc : c < 2 ^ 31) : Mi l G yJ15_checkIndex_7cf53 cJ15_checkIndex_7cf53 2 .int 1 22 0 0 [.int (nI i), .int (nI c)] [] (fun r u => r = nI i ∧ u = []) := by
  refine Mi_of (by decide) (Nat.le_of_ble_eq_true rfl) (fun pP eE sS mM aA bB tT cC AA QQ hC hr hnm hQ => ?_)
  refine V_iload_n hC dJ15_checkIndex_7cf53_0 0 rfl ?_
  refine V_iload_n hC dJ15_checkIndex_7cf53_1 1 rfl ?_
  refine V_null hC dJ15_checkIndex_7cf53_2 ?_
  refine V_calli hC (V_runS hC (rest := []) [.int (nI i), .int (nI c), .null] (c_J3_checkIndex_8e157 l G i c hi hc) [] rfl (by decide) q1309 q1310 q69 q1311 ⟨by decide, by decide, rfl⟩ ⟨by decide, by decide⟩ rfl (Nat.le_of_ble_eq_true rfl) ⟨by decide, by decide⟩ dJ15_checkIndex_7cf53_3) (is := []) rfl [] (rs := []) rfl (by decide) (by decide) ?_
  rintro _ _ ⟨rfl, rfl⟩
  exact V_iret hC hQ hr [] (u := []) (by decide) rfl (by decide) (by decide) dJ15_checkIndex_7cf53_6 (⟨rfl, rfl⟩)
set_option maxHeartbeats 4000000 in
set_option maxRecDepth 100000 in
/-- java/util/ArrayList.size -/
theorem c_Jx4a65c_size_8abf5 (l : Launch) (G : VG) (a : Nat) (m : Int32) (b c : Nat) : Mi l G yJx4a65c_size_8abf5 cJx4a65c_size_8abf5 1 .int 0 0 0 0 [.ref a] [[(a, .inr (0, [.int m, .ref b, .int (nI c)]))]] (fun r u => r = nI c ∧ u = [[(a, .inr (0, [.int m, .ref b, .int (nI c)]))]]) := by
  refine Mi_of (by decide) (Nat.le_of_ble_eq_true rfl) (fun pP eE sS mM aA bB tT cC AA QQ hC hr hnm hQ => ?_)
  refine V_aload_n hC dJx4a65c_size_8abf5_0 0 rfl ?_
  refine V_get hC dJx4a65c_size_8abf5_1 inAJx4a65c (mem_at 0 0 rfl rfl) rfl 2 (by decide) q962 rfl (v := .int (nI c)) rfl ?_
  exact V_iret hC hQ hr [0] (u := [[(a, .inr (0, [.int m, .ref b, .int (nI c)]))]]) (by decide) rfl (by decide) (by decide) dJx4a65c_size_8abf5_4 (⟨rfl, rfl⟩)
set_option maxHeartbeats 4000000 in
set_option maxRecDepth 100000 in
/-- java/util/ArrayList.isEmpty -/
theorem c_Jx4a65c_isEmpty_aae02 (l : Launch) (G : VG) (a : Nat) (m : Int32) (b c : Nat) (hc : c < 2 ^ 31) : Mi l G yJx4a65c_isEmpty_aae02 cJx4a65c_isEmpty_aae02 1 .boolean 0 0 0 0 [.ref a] [[(a, .inr (0, [.int m, .ref b, .int (nI c)]))]] (fun r u => r = (if c = 0 then 1 else 0) ∧ u = [[(a, .inr (0, [.int m, .ref b, .int (nI c)]))]]) := by
  refine Mi_of (by decide) (Nat.le_of_ble_eq_true rfl) (fun pP eE sS mM aA bB tT cC AA QQ hC hr hnm hQ => ?_)
  refine V_aload_n hC dJx4a65c_isEmpty_aae02_0 0 rfl ?_
  refine V_get hC dJx4a65c_isEmpty_aae02_1 inAJx4a65c (mem_at 0 0 rfl rfl) rfl 2 (by decide) q962 rfl (v := .int (nI c)) rfl ?_
  refine V_if_ne hC dJx4a65c_isEmpty_aae02_4 (tgt := 11) (by decide) (fun h1 => ?_) (fun h1 => ?_)
  · have hz : ¬ c = 0 := by rintro rfl; exact h1 rfl
    refine V_iconst hC dJx4a65c_isEmpty_aae02_11 (v := 0) (by decide) ?_
    exact V_zret hC hQ hr (by decide) [0] (u := [[(a, .inr (0, [.int m, .ref b, .int (nI c)]))]]) (by decide) rfl (by decide) (by decide) dJx4a65c_isEmpty_aae02_12 (⟨by simp [hz], rfl⟩)
  · have hz : c = 0 := nI_z h1
    refine V_iconst hC dJx4a65c_isEmpty_aae02_7 (v := 1) (by decide) ?_
    refine V_goto hC dJx4a65c_isEmpty_aae02_8 (tgt := 12) (by decide) ?_
    exact V_zret hC hQ hr (by decide) [0] (u := [[(a, .inr (0, [.int m, .ref b, .int (nI c)]))]]) (by decide) rfl (by decide) (by decide) dJx4a65c_isEmpty_aae02_12 (⟨by simp [hz], rfl⟩)
set_option maxHeartbeats 4000000 in
set_option maxRecDepth 100000 in
/-- java/util/ArrayList.elementData -/
theorem c_Jx4a65c_elementData_915e3 (l : Launch) (G : VG) (a : Nat) (m : Int32) (b c : Nat) (N : Nat) (e : Nat → Nat) (i : Nat) (hi : i < c) (hN : c ≤ N) (hb : N < 2 ^ 31) : Mr l G yJx4a65c_elementData_915e3 cJx4a65c_elementData_915e3 2 (.object "java/lang/Object") 0 0 0 0 [.ref a, .int (nI i)] [[(a, .inr (0, [.int m, .ref b, .int (nI c)]))], [(b, .inl (G.2.1 8, N, .inr (.inr (.inr (.inr (rfN c e))))))]] (fun r u => r = e i ∧ u = [[(a, .inr (0, [.int m, .ref b, .int (nI c)]))], [(b, .inl (G.2.1 8, N, .inr (.inr (.inr (.inr (rfN c e))))))]]) := by
  refine Mr_of (by decide) (Nat.le_of_ble_eq_true rfl) (fun pP eE sS mM aA bB tT cC AA QQ hC hr hnm hQ => ?_)
  refine V_aload_n hC dJx4a65c_elementData_915e3_0 0 rfl ?_
  refine V_get hC dJx4a65c_elementData_915e3_1 inAJx4a65c (mem_at 0 0 rfl rfl) rfl 1 (by decide) q961 rfl (v := .ref b) rfl ?_
  refine V_iload_n hC dJx4a65c_elementData_915e3_4 1 rfl ?_
  refine V_aald hC dJx4a65c_elementData_915e3_5 8 rfl (mem_at 1 0 rfl rfl) (vp_in_nI (by omega) (by omega)) (x := i) (nI_clamp (by omega)) (b := e i) (rfN_at (hi)) ?_
  exact V_aret hC hQ hr (Or.inl ⟨_, rfl⟩) [0, 1] (u := [[(a, .inr (0, [.int m, .ref b, .int (nI c)]))], [(b, .inl (G.2.1 8, N, .inr (.inr (.inr (.inr (rfN c e))))))]]) (by decide) rfl (by decide) (by decide) dJx4a65c_elementData_915e3_6 (⟨rfl, rfl⟩)
set_option maxHeartbeats 4000000 in
set_option maxRecDepth 100000 in
/-- java/util/ArrayList.get -/
theorem c_Jx4a65c_get_915e3 (l : Launch) (G : VG) (a : Nat) (m : Int32) (b c : Nat) (N : Nat) (e : Nat → Nat) (i : Nat) (hi : i < c) (hN : c ≤ N) (hb : N < 2 ^ 31) : Mr l G yJx4a65c_get_915e3 cJx4a65c_get_915e3 2 (.object "java/lang/Object") 2 43 0 0 [.ref a, .int (nI i)] [[(a, .inr (0, [.int m, .ref b, .int (nI c)]))], [(b, .inl (G.2.1 8, N, .inr (.inr (.inr (.inr (rfN c e))))))]] (fun r u => r = e i ∧ u = [[(a, .inr (0, [.int m, .ref b, .int (nI c)]))], [(b, .inl (G.2.1 8, N, .inr (.inr (.inr (.inr (rfN c e))))))]]) := by
  refine Mr_of (by decide) (Nat.le_of_ble_eq_true rfl) (fun pP eE sS mM aA bB tT cC AA QQ hC hr hnm hQ => ?_)
  refine V_iload_n hC dJx4a65c_get_915e3_0 1 rfl ?_
  refine V_aload_n hC dJx4a65c_get_915e3_1 0 rfl ?_
  refine V_get hC dJx4a65c_get_915e3_2 inAJx4a65c (mem_at 0 0 rfl rfl) rfl 2 (by decide) q962 rfl (v := .int (nI c)) rfl ?_
  refine V_calli hC (V_runS hC (rest := []) [.int (nI i), .int (nI c)] (c_J15_checkIndex_7cf53 l G i c hi (by omega)) [] rfl (by decide) q1306 q1307 q68 q1308 ⟨by decide, by decide, rfl⟩ ⟨by decide, by decide⟩ rfl (Nat.le_of_ble_eq_true rfl) ⟨by decide, by decide⟩ dJx4a65c_get_915e3_5) (is := []) rfl [0, 1] (rs := [[(a, .inr (0, [.int m, .ref b, .int (nI c)]))], [(b, .inl (G.2.1 8, N, .inr (.inr (.inr (.inr (rfN c e))))))]]) rfl (by decide) (by decide) ?_
  rintro _ _ ⟨rfl, rfl⟩
  refine V_pop hC dJx4a65c_get_915e3_8 rfl ?_
  refine V_aload_n hC dJx4a65c_get_915e3_9 0 rfl ?_
  refine V_iload_n hC dJx4a65c_get_915e3_10 1 rfl ?_
  refine V_callr hC (V_runV hC (rest := []) [.int (nI i)] (Mr_sz (c_Jx4a65c_elementData_915e3 l G a m b c N e i hi hN hb)) [0, 1] rfl (by decide) q1312 q1313 q1314 q55 q1315 ⟨by decide, by decide, rfl⟩ ⟨by decide, by decide⟩ (ci := 0) rfl (mem_at 0 0 rfl rfl) rfl (Nat.le_of_ble_eq_true rfl) ⟨by decide, by decide⟩ dJx4a65c_get_915e3_11) (is := [0, 1]) rfl [] (rs := []) rfl (by decide) (by decide) ?_
  rintro _ _ ⟨rfl, rfl⟩
  exact V_aret hC hQ hr (Or.inl ⟨_, rfl⟩) [0, 1] (u := [[(a, .inr (0, [.int m, .ref b, .int (nI c)]))], [(b, .inl (G.2.1 8, N, .inr (.inr (.inr (.inr (rfN c e))))))]]) (by decide) rfl (by decide) (by decide) dJx4a65c_get_915e3_14 (⟨rfl, rfl⟩)
set_option maxHeartbeats 4000000 in
set_option maxRecDepth 100000 in
/-- java/util/AbstractCollection.<init> -/
theorem c_Jxa1e45_init_da8c8 (l : Launch) (G : VG) (a : Nat) : Mv l G yJxa1e45_init_da8c8 cJxa1e45_init_da8c8 1 1 12 0 0 [.ref a] [] (fun u => u = []) := by
  refine Mv_of (by decide) (Nat.le_of_ble_eq_true rfl) (fun pP eE sS mM aA bB tT cC AA QQ hC hr hnm hQ => ?_)
  refine V_aload_n hC dJxa1e45_init_da8c8_0 0 rfl ?_
  refine V_objInit hC q958 q76 q77 dJxa1e45_init_da8c8_1 (by decide) (Nat.le_of_ble_eq_true rfl) ?_
  exact V_vret hC hQ hr [] (u := []) (by decide) rfl (by decide) (by decide) dJxa1e45_init_da8c8_4 (rfl)
set_option maxHeartbeats 4000000 in
set_option maxRecDepth 100000 in
/-- java/util/AbstractList.<init> -/
theorem c_Jxc12de_init_da8c8 (l : Launch) (G : VG) (a : Nat) : Mv l G yJxc12de_init_da8c8 cJxc12de_init_da8c8 1 2 32 0 0 [.ref a] [[(a, .inr (0, [.int 0, .null, .int 0]))]] (fun u => u = [[(a, .inr (0, [.int 0, .null, .int 0]))]]) := by
  refine Mv_of (by decide) (Nat.le_of_ble_eq_true rfl) (fun pP eE sS mM aA bB tT cC AA QQ hC hr hnm hQ => ?_)
  refine V_aload_n hC dJxc12de_init_da8c8_0 0 rfl ?_
  refine V_callv hC (V_runI hC (rest := []) [] (c_Jxa1e45_init_da8c8 l G a) [] rfl (by decide) q955 q956 q53 q957 rfl ⟨by decide, by decide, rfl⟩ ⟨by decide, by decide⟩ rfl (Nat.le_of_ble_eq_true rfl) ⟨by decide, by decide⟩ dJxc12de_init_da8c8_1) (is := []) rfl [0] (rs := [[(a, .inr (0, [.int 0, .null, .int 0]))]]) rfl (by decide) (by decide) ?_
  rintro _ rfl
  refine V_aload_n hC dJxc12de_init_da8c8_4 0 rfl ?_
  refine V_iconst hC dJxc12de_init_da8c8_5 (v := 0) (by decide) ?_
  refine V_put hC dJxc12de_init_da8c8_6 inAJx4a65c tyJx4a65c tyJx4a65c_ok nmJx4a65c 0 0 rfl rfl rfl 0 (by decide) q963 rfl rfl (rfl) (rfl) (Nat.le_of_ble_eq_true rfl) (ps' := [[(a, .inr (0, [.int 0, .null, .int 0]))]]) rfl ?_
  exact V_vret hC hQ hr [0] (u := [[(a, .inr (0, [.int 0, .null, .int 0]))]]) (by decide) rfl (by decide) (by decide) dJxc12de_init_da8c8_9 (rfl)
set_option maxHeartbeats 4000000 in
set_option maxRecDepth 100000 in
/-- java/util/ArrayList.<init> -/
theorem c_Jx4a65c_init_da8c8 (l : Launch) (G : VG) (a : Nat) : Mv l G yJx4a65c_init_da8c8 cJx4a65c_init_da8c8 1 3 52 0 0 [.ref a] [[(a, .inr (0, [.int 0, .null, .int 0]))]] (fun u => u = [[(a, .inr (0, [.int 0, .ref (G.2.2 4), .int 0]))]]) := by
  refine Mv_of (by decide) (Nat.le_of_ble_eq_true rfl) (fun pP eE sS mM aA bB tT cC AA QQ hC hr hnm hQ => ?_)
  refine V_aload_n hC dJx4a65c_init_da8c8_0 0 rfl ?_
  refine V_callv hC (V_runI hC (rest := []) [] (c_Jxc12de_init_da8c8 l G a) [0] rfl (by decide) q952 q953 q54 q954 rfl ⟨by decide, by decide, rfl⟩ ⟨by decide, by decide⟩ rfl (Nat.le_of_ble_eq_true rfl) ⟨by decide, by decide⟩ dJx4a65c_init_da8c8_1) (is := [0]) rfl [] (rs := []) rfl (by decide) (by decide) ?_
  rintro _ rfl
  refine V_aload_n hC dJx4a65c_init_da8c8_4 0 rfl ?_
  refine V_getE hC dJx4a65c_init_da8c8_5 q959 rfl ?_
  refine V_put hC dJx4a65c_init_da8c8_8 inAJx4a65c tyJx4a65c tyJx4a65c_ok nmJx4a65c 0 0 rfl rfl rfl 1 (by decide) q961 rfl rfl (rfl) (rfl) (Nat.le_of_ble_eq_true rfl) (ps' := [[(a, .inr (0, [.int 0, .ref (G.2.2 4), .int 0]))]]) rfl ?_
  exact V_vret hC hQ hr [0] (u := [[(a, .inr (0, [.int 0, .ref (G.2.2 4), .int 0]))]]) (by decide) rfl (by decide) (by decide) dJx4a65c_init_da8c8_11 (rfl)
set_option maxHeartbeats 4000000 in
set_option maxRecDepth 100000 in
/-- java/util/ArrayList.grow -/
theorem c_AL_grow0I (l : Launch) (G : VG) (a : Nat) (m : Int32) : Mr l G yJx4a65c_grow_92f84 cJx4a65c_grow_92f84 4 (.array (.object "java/lang/Object")) 1 14 1 10 [.ref a, .int 1] [[(a, .inr (0, [.int m, .ref (G.2.2 4), .int 0]))]] (fun r v => ∃ q : Nat, q = r ∧ v = [[(a, .inr (0, [.int m, .ref q, .int 0]))], [(q, .inl (G.2.1 8, 10, .inr (.inr (.inr (.inr (fun _ => none))))))]]) := by
  refine Mr_of (by decide) (Nat.le_of_ble_eq_true rfl) (fun pP eE sS mM aA bB tT cC AA QQ hC hr hnm hQ => ?_)
  refine V_aload_n hC dJx4a65c_grow_92f84_0 0 rfl ?_
  refine V_get hC dJx4a65c_grow_92f84_1 inAJx4a65c (mem_at 0 0 rfl rfl) rfl 1 (by decide) q961 rfl (v := .ref (G.2.2 4)) rfl ?_
  refine V_alenE hC dJx4a65c_grow_92f84_4 ?_
  refine V_istore_n hC dJx4a65c_grow_92f84_5 (L' := [(2, .int 0), (0, .ref a), (1, .int 1)]) (by decide) rfl ?_
  refine V_iload_n hC dJx4a65c_grow_92f84_6 0 rfl ?_
  refine V_if_gtF hC dJx4a65c_grow_92f84_7 (tgt := 20) (by decide) (by decide) ?_
  refine V_aload_n hC dJx4a65c_grow_92f84_10 1 rfl ?_
  refine V_get hC dJx4a65c_grow_92f84_11 inAJx4a65c (mem_at 0 0 rfl rfl) rfl 1 (by decide) q961 rfl (v := .ref (G.2.2 4)) rfl ?_
  refine V_getE hC dJx4a65c_grow_92f84_14 q959 rfl ?_
  refine V_acmp_eqT hC dJx4a65c_grow_92f84_17 (tgt := 45) (by decide) ?_
  refine V_aload_n hC dJx4a65c_grow_92f84_45 1 rfl ?_
  refine V_bipush hC dJx4a65c_grow_92f84_46 (v := 10) (by decide) ?_
  refine V_iload_n hC dJx4a65c_grow_92f84_48 2 rfl ?_
  refine V_mmax hC q1253 q694 q65 q695 (by decide) (Nat.le_of_ble_eq_true rfl) (by decide) (by decide) dJx4a65c_grow_92f84_49 ?_
  refine V_eqi (y := 10) (by decide) ?_
  refine V_newq hC 8 rfl q1254 (by decide) (N := 10) (by decide) (by decide) (by decide) (by decide) (by decide) dJx4a65c_grow_92f84_52 (fun q1 => ?_)
  refine V_dup_x1 hC dJx4a65c_grow_92f84_55 rfl rfl ?_
  refine V_put hC dJx4a65c_grow_92f84_56 inAJx4a65c tyJx4a65c tyJx4a65c_ok nmJx4a65c 0 0 rfl rfl rfl 1 (by decide) q961 rfl rfl (rfl) (rfl) (Nat.le_of_ble_eq_true rfl) (ps' := [[(a, .inr (0, [.int m, .ref q1, .int 0]))], [(q1, .inl (G.2.1 8, 10, .inr (.inr (.inr (.inr (fun _ => none))))))]]) rfl ?_
  exact V_aret hC hQ hr (Or.inr ⟨_, rfl⟩) [0, 1] (u := [[(a, .inr (0, [.int m, .ref q1, .int 0]))], [(q1, .inl (G.2.1 8, 10, .inr (.inr (.inr (.inr (fun _ => none))))))]]) (by decide) rfl (by decide) (by decide) dJx4a65c_grow_92f84_59 (⟨_, rfl, rfl⟩)
set_option maxHeartbeats 4000000 in
set_option maxRecDepth 100000 in
/-- java/util/ArrayList.grow -/
theorem c_AL_grow0 (l : Launch) (G : VG) (a : Nat) (m : Int32) : Mr l G yJx4a65c_grow_d5877 cJx4a65c_grow_d5877 1 (.array (.object "java/lang/Object")) 2 37 1 10 [.ref a] [[(a, .inr (0, [.int m, .ref (G.2.2 4), .int 0]))]] (fun r v => ∃ q : Nat, q = r ∧ v = [[(a, .inr (0, [.int m, .ref q, .int 0]))], [(q, .inl (G.2.1 8, 10, .inr (.inr (.inr (.inr (fun _ => none))))))]]) := by
  refine Mr_of (by decide) (Nat.le_of_ble_eq_true rfl) (fun pP eE sS mM aA bB tT cC AA QQ hC hr hnm hQ => ?_)
  refine V_aload_n hC dJx4a65c_grow_d5877_0 0 rfl ?_
  refine V_aload_n hC dJx4a65c_grow_d5877_1 0 rfl ?_
  refine V_get hC dJx4a65c_grow_d5877_2 inAJx4a65c (mem_at 0 0 rfl rfl) rfl 2 (by decide) q962 rfl (v := .int 0) rfl ?_
  refine V_iconst hC dJx4a65c_grow_d5877_5 (v := 1) (by decide) ?_
  refine V_iadd hC dJx4a65c_grow_d5877_6 ?_
  refine V_eqi (y := 1) (by decide) ?_
  refine V_callr hC (V_runV hC (rest := []) [.int 1] (Mr_sz (c_AL_grow0I l G a m)) [0] rfl (by decide) q1210 q1212 q27 q55 q1213 ⟨by decide, by decide, rfl⟩ ⟨by decide, by decide⟩ (ci := 0) rfl (mem_at 0 0 rfl rfl) rfl (Nat.le_of_ble_eq_true rfl) ⟨by decide, by decide⟩ dJx4a65c_grow_d5877_7) (is := [0]) rfl [] (rs := []) rfl (by decide) (by decide) ?_
  rintro _ _ ⟨q1, rfl, rfl⟩
  exact V_aret hC hQ hr (Or.inr ⟨_, rfl⟩) [0, 1] (u := [[(a, .inr (0, [.int m, .ref q1, .int 0]))], [(q1, .inl (G.2.1 8, 10, .inr (.inr (.inr (.inr (fun _ => none))))))]]) (by decide) rfl (by decide) (by decide) dJx4a65c_grow_d5877_10 (⟨_, rfl, rfl⟩)
set_option maxHeartbeats 4000000 in
set_option maxRecDepth 100000 in
/-- java/util/ArrayList.add -/
theorem c_AL_addp0 (l : Launch) (G : VG) (a : Nat) (m : Int32) (x : Nat) (w : va_W) (fs : List Value) (hx : (x, .inr (10, fs)) ∈ w) : Mv l G yJx4a65c_add_72be8 cJx4a65c_add_72be8 4 3 57 1 10 [.ref a, .ref x, .ref (G.2.2 4), .int 0] [[(a, .inr (0, [.int m, .ref (G.2.2 4), .int 0]))], w] (fun v => ∃ q : Nat, v = [[(a, .inr (0, [.int m, .ref q, .int 1]))], [(q, .inl (G.2.1 8, 10, .inr (.inr (.inr (.inr (va_up (fun _ => none) 0 (some x)))))))], w]) := by
  refine Mv_of (by decide) (Nat.le_of_ble_eq_true rfl) (fun pP eE sS mM aA bB tT cC AA QQ hC hr hnm hQ => ?_)
  refine V_iload_n hC dJx4a65c_add_72be8_0 3 rfl ?_
  refine V_aload_n hC dJx4a65c_add_72be8_1 2 rfl ?_
  refine V_alenE hC dJx4a65c_add_72be8_2 ?_
  refine V_icmp_neF hC dJx4a65c_add_72be8_3 (tgt := 11) (by decide) (by decide) ?_
  refine V_aload_n hC dJx4a65c_add_72be8_6 0 rfl ?_
  refine V_callr hC (V_runV hC (rest := []) [] (Mr_sz (c_AL_grow0 l G a m)) [0] rfl (by decide) q1206 q1208 q26 q55 q1209 ⟨by decide, by decide, rfl⟩ ⟨by decide, by decide⟩ (ci := 0) rfl (mem_at 0 0 rfl rfl) rfl (Nat.le_of_ble_eq_true rfl) ⟨by decide, by decide⟩ dJx4a65c_add_72be8_7) (is := [0]) rfl [1] (rs := [w]) rfl (by decide) (by decide) ?_
  rintro _ _ ⟨q1, rfl, rfl⟩
  refine V_astore_n hC dJx4a65c_add_72be8_10 (L' := [(2, .ref q1), (0, .ref a), (1, .ref x), (3, .int 0)]) (by decide) rfl ?_
  refine V_aload_n hC dJx4a65c_add_72be8_11 0 rfl ?_
  refine V_iload_n hC dJx4a65c_add_72be8_12 3 rfl ?_
  refine V_aload_n hC dJx4a65c_add_72be8_13 2 rfl ?_
  refine V_aastO hC dJx4a65c_add_72be8_14 1 8 0 10 rfl soft_cs rfl rfl rfl (mem_pc 2 rfl hx) (vin (by decide)) (z := 0) (by decide) (ps' := [[(a, .inr (0, [.int m, .ref q1, .int 0]))], [(q1, .inl (G.2.1 8, 10, .inr (.inr (.inr (.inr (va_up (fun _ => none) 0 (some x)))))))], w]) rfl ?_
  refine V_aload_n hC dJx4a65c_add_72be8_15 1 rfl ?_
  refine V_iload_n hC dJx4a65c_add_72be8_16 3 rfl ?_
  refine V_iconst hC dJx4a65c_add_72be8_17 (v := 1) (by decide) ?_
  refine V_iadd hC dJx4a65c_add_72be8_18 ?_
  refine V_eqi (y := 1) (by decide) ?_
  refine V_put hC dJx4a65c_add_72be8_19 inAJx4a65c tyJx4a65c tyJx4a65c_ok nmJx4a65c 0 0 rfl rfl rfl 2 (by decide) q962 rfl rfl (rfl) (rfl) (Nat.le_of_ble_eq_true rfl) (ps' := [[(a, .inr (0, [.int m, .ref q1, .int 1]))], [(q1, .inl (G.2.1 8, 10, .inr (.inr (.inr (.inr (va_up (fun _ => none) 0 (some x)))))))], w]) rfl ?_
  exact V_vret hC hQ hr [0, 1, 2] (u := [[(a, .inr (0, [.int m, .ref q1, .int 1]))], [(q1, .inl (G.2.1 8, 10, .inr (.inr (.inr (.inr (va_up (fun _ => none) 0 (some x)))))))], w]) (by decide) rfl (by decide) (by decide) dJx4a65c_add_72be8_22 (⟨_, rfl⟩)
set_option maxHeartbeats 4000000 in
set_option maxRecDepth 100000 in
/-- java/util/ArrayList.add -/
theorem c_AL_add0 (l : Launch) (G : VG) (a : Nat) (m : Int32) (x : Nat) (w : va_W) (fs : List Value) (hx : (x, .inr (10, fs)) ∈ w) : Mi l G yJx4a65c_add_9ea2d cJx4a65c_add_9ea2d 2 .boolean 6 200 1 33 [.ref a, .ref x] [[(a, .inr (0, [.int m, .ref (G.2.2 4), .int 0]))], w] (fun r v => ∃ q : Nat, r = 1 ∧ v = [[(a, .inr (0, [.int (m + 1), .ref q, .int 1]))], [(q, .inl (G.2.1 8, 10, .inr (.inr (.inr (.inr (va_up (fun _ => none) 0 (some x)))))))], w]) := by
  refine Mi_of (by decide) (Nat.le_of_ble_eq_true rfl) (fun pP eE sS mM aA bB tT cC AA QQ hC hr hnm hQ => ?_)
  refine V_aload_n hC dJx4a65c_add_9ea2d_0 0 rfl ?_
  refine V_dup hC dJx4a65c_add_9ea2d_1 rfl ?_
  refine V_getS hC dJx4a65c_add_9ea2d_2 inAJx4a65c (mem_at 0 0 rfl rfl) rfl 0 (by decide) q964 q965 (v := .int m) rfl ?_
  refine V_iconst hC dJx4a65c_add_9ea2d_5 (v := 1) (by decide) ?_
  refine V_iadd hC dJx4a65c_add_9ea2d_6 ?_
  refine V_putS hC dJx4a65c_add_9ea2d_7 inAJx4a65c tyJx4a65c tyJx4a65c_ok nmJx4a65c 0 0 rfl rfl rfl 0 (by decide) q964 q965 rfl (rfl) (rfl) (Nat.le_of_ble_eq_true rfl) (ps' := [[(a, .inr (0, [.int (m + 1), .ref (G.2.2 4), .int 0]))], w]) rfl ?_
  refine V_aload_n hC dJx4a65c_add_9ea2d_10 0 rfl ?_
  refine V_aload_n hC dJx4a65c_add_9ea2d_11 1 rfl ?_
  refine V_aload_n hC dJx4a65c_add_9ea2d_12 0 rfl ?_
  refine V_get hC dJx4a65c_add_9ea2d_13 inAJx4a65c (mem_at 0 0 rfl rfl) rfl 1 (by decide) q961 rfl (v := .ref (G.2.2 4)) rfl ?_
  refine V_aload_n hC dJx4a65c_add_9ea2d_16 0 rfl ?_
  refine V_get hC dJx4a65c_add_9ea2d_17 inAJx4a65c (mem_at 0 0 rfl rfl) rfl 2 (by decide) q962 rfl (v := .int 0) rfl ?_
  refine V_callv hC (V_runV hC (rest := []) [.ref x, .ref (G.2.2 4), .int 0] (c_AL_addp0 l G a (m + 1) x w fs hx) [0, 1] rfl (by decide) q1202 q1204 q25 q55 q1205 ⟨by decide, by decide, rfl⟩ ⟨by decide, by decide⟩ (ci := 0) rfl (mem_at 0 0 rfl rfl) rfl (Nat.le_of_ble_eq_true rfl) ⟨by decide, by decide⟩ dJx4a65c_add_9ea2d_20) (is := [0, 1]) rfl [] (rs := []) rfl (by decide) (by decide) ?_
  rintro _ ⟨q1, rfl⟩
  refine V_iconst hC dJx4a65c_add_9ea2d_23 (v := 1) (by decide) ?_
  exact V_zret hC hQ hr (by decide) [0, 1, 2] (u := [[(a, .inr (0, [.int (m + 1), .ref q1, .int 1]))], [(q1, .inl (G.2.1 8, 10, .inr (.inr (.inr (.inr (va_up (fun _ => none) 0 (some x)))))))], w]) (by decide) rfl (by decide) (by decide) dJx4a65c_add_9ea2d_24 (⟨_, rfl, rfl⟩)
set_option maxHeartbeats 4000000 in
set_option maxRecDepth 100000 in
/-- java/util/ArrayList.add -/
theorem c_AL_addp1 (l : Launch) (G : VG) (a : Nat) (m : Int32) (b c : Nat) (N : Nat) (e : Nat → Nat) (x : Nat) (w : va_W) (fs : List Value) (hc : c < N) (hN : N < 2 ^ 31) (hx : (x, .inr (10, fs)) ∈ w) : Mv l G yJx4a65c_add_72be8 cJx4a65c_add_72be8 4 0 0 0 0 [.ref a, .ref x, .ref b, .int (nI c)] [[(a, .inr (0, [.int m, .ref b, .int (nI c)]))], [(b, .inl (G.2.1 8, N, .inr (.inr (.inr (.inr (rfN c e))))))], w] (fun v => v = [[(a, .inr (0, [.int m, .ref b, .int (nI (c + 1))]))], [(b, .inl (G.2.1 8, N, .inr (.inr (.inr (.inr (va_up (rfN c e) c (some x)))))))], w]) := by
  refine Mv_of (by decide) (Nat.le_of_ble_eq_true rfl) (fun pP eE sS mM aA bB tT cC AA QQ hC hr hnm hQ => ?_)
  refine V_iload_n hC dJx4a65c_add_72be8_0 3 rfl ?_
  refine V_aload_n hC dJx4a65c_add_72be8_1 2 rfl ?_
  refine V_alen hC dJx4a65c_add_72be8_2 8 rfl (mem_at 1 0 rfl rfl) (v := nI N) (rfl) ?_
  refine V_icmp_neT hC dJx4a65c_add_72be8_3 (tgt := 11) (by decide) (fun h => absurd (nI_inj h) (by omega)) ?_
  refine V_aload_n hC dJx4a65c_add_72be8_11 2 rfl ?_
  refine V_iload_n hC dJx4a65c_add_72be8_12 3 rfl ?_
  refine V_aload_n hC dJx4a65c_add_72be8_13 1 rfl ?_
  refine V_aastO hC dJx4a65c_add_72be8_14 1 8 0 10 rfl soft_cs rfl rfl rfl (mem_pc 2 rfl hx) (vp_in_nI (by omega) (by omega)) (z := c) (nI_clamp (by omega)) (ps' := [[(a, .inr (0, [.int m, .ref b, .int (nI c)]))], [(b, .inl (G.2.1 8, N, .inr (.inr (.inr (.inr (va_up (rfN c e) c (some x)))))))], w]) rfl ?_
  refine V_aload_n hC dJx4a65c_add_72be8_15 0 rfl ?_
  refine V_iload_n hC dJx4a65c_add_72be8_16 3 rfl ?_
  refine V_iconst hC dJx4a65c_add_72be8_17 (v := 1) (by decide) ?_
  refine V_iadd hC dJx4a65c_add_72be8_18 ?_
  refine V_eqi (y := nI (c + 1)) (nI_1 c) ?_
  refine V_put hC dJx4a65c_add_72be8_19 inAJx4a65c tyJx4a65c tyJx4a65c_ok nmJx4a65c 0 0 rfl rfl rfl 2 (by decide) q962 rfl rfl (rfl) (rfl) (Nat.le_of_ble_eq_true rfl) (ps' := [[(a, .inr (0, [.int m, .ref b, .int (nI (c + 1))]))], [(b, .inl (G.2.1 8, N, .inr (.inr (.inr (.inr (va_up (rfN c e) c (some x)))))))], w]) rfl ?_
  exact V_vret hC hQ hr [0, 1, 2] (u := [[(a, .inr (0, [.int m, .ref b, .int (nI (c + 1))]))], [(b, .inl (G.2.1 8, N, .inr (.inr (.inr (.inr (va_up (rfN c e) c (some x)))))))], w]) (by decide) rfl (by decide) (by decide) dJx4a65c_add_72be8_22 (rfl)
set_option maxHeartbeats 4000000 in
set_option maxRecDepth 100000 in
/-- java/util/ArrayList.add -/
theorem c_AL_add1 (l : Launch) (G : VG) (a : Nat) (m : Int32) (b c : Nat) (N : Nat) (e : Nat → Nat) (x : Nat) (w : va_W) (fs : List Value) (hc : c < N) (hN : N < 2 ^ 31) (hx : (x, .inr (10, fs)) ∈ w) : Mi l G yJx4a65c_add_9ea2d cJx4a65c_add_9ea2d 2 .boolean 6 200 1 33 [.ref a, .ref x] [[(a, .inr (0, [.int m, .ref b, .int (nI c)]))], [(b, .inl (G.2.1 8, N, .inr (.inr (.inr (.inr (rfN c e))))))], w] (fun r v => r = 1 ∧ v = [[(a, .inr (0, [.int (m + 1), .ref b, .int (nI (c + 1))]))], [(b, .inl (G.2.1 8, N, .inr (.inr (.inr (.inr (va_up (rfN c e) c (some x)))))))], w]) := by
  refine Mi_of (by decide) (Nat.le_of_ble_eq_true rfl) (fun pP eE sS mM aA bB tT cC AA QQ hC hr hnm hQ => ?_)
  refine V_aload_n hC dJx4a65c_add_9ea2d_0 0 rfl ?_
  refine V_dup hC dJx4a65c_add_9ea2d_1 rfl ?_
  refine V_getS hC dJx4a65c_add_9ea2d_2 inAJx4a65c (mem_at 0 0 rfl rfl) rfl 0 (by decide) q964 q965 (v := .int m) rfl ?_
  refine V_iconst hC dJx4a65c_add_9ea2d_5 (v := 1) (by decide) ?_
  refine V_iadd hC dJx4a65c_add_9ea2d_6 ?_
  refine V_putS hC dJx4a65c_add_9ea2d_7 inAJx4a65c tyJx4a65c tyJx4a65c_ok nmJx4a65c 0 0 rfl rfl rfl 0 (by decide) q964 q965 rfl (rfl) (rfl) (Nat.le_of_ble_eq_true rfl) (ps' := [[(a, .inr (0, [.int (m + 1), .ref b, .int (nI c)]))], [(b, .inl (G.2.1 8, N, .inr (.inr (.inr (.inr (rfN c e))))))], w]) rfl ?_
  refine V_aload_n hC dJx4a65c_add_9ea2d_10 0 rfl ?_
  refine V_aload_n hC dJx4a65c_add_9ea2d_11 1 rfl ?_
  refine V_aload_n hC dJx4a65c_add_9ea2d_12 0 rfl ?_
  refine V_get hC dJx4a65c_add_9ea2d_13 inAJx4a65c (mem_at 0 0 rfl rfl) rfl 1 (by decide) q961 rfl (v := .ref b) rfl ?_
  refine V_aload_n hC dJx4a65c_add_9ea2d_16 0 rfl ?_
  refine V_get hC dJx4a65c_add_9ea2d_17 inAJx4a65c (mem_at 0 0 rfl rfl) rfl 2 (by decide) q962 rfl (v := .int (nI c)) rfl ?_
  refine V_callv hC (V_runV hC (rest := []) [.ref x, .ref b, .int (nI c)] (c_AL_addp1 l G a (m + 1) b c N e x w fs hc hN hx) [0, 1, 2] rfl (by decide) q1202 q1204 q25 q55 q1205 ⟨by decide, by decide, rfl⟩ ⟨by decide, by decide⟩ (ci := 0) rfl (mem_at 0 0 rfl rfl) rfl (Nat.le_of_ble_eq_true rfl) ⟨by decide, by decide⟩ dJx4a65c_add_9ea2d_20) (is := [0, 1, 2]) rfl [] (rs := []) rfl (by decide) (by decide) ?_
  rintro _ rfl
  refine V_iconst hC dJx4a65c_add_9ea2d_23 (v := 1) (by decide) ?_
  exact V_zret hC hQ hr (by decide) [0, 1, 2] (u := [[(a, .inr (0, [.int (m + 1), .ref b, .int (nI (c + 1))]))], [(b, .inl (G.2.1 8, N, .inr (.inr (.inr (.inr (va_up (rfN c e) c (some x)))))))], w]) (by decide) rfl (by decide) (by decide) dJx4a65c_add_9ea2d_24 (⟨rfl, rfl⟩)
set_option maxHeartbeats 4000000 in
set_option maxRecDepth 100000 in
/-- jdk/internal/util/ArraysSupport.newLength -/
theorem c_AL_len10 (l : Launch) (G : VG) : Mi l G yJ8_newLength_cabcc cJ8_newLength_cabcc 4 .int 1 14 0 0 [.int 10, .int 1, .int 5] [] (fun r u => r = 15 ∧ u = []) := by
  refine Mi_of (by decide) (Nat.le_of_ble_eq_true rfl) (fun pP eE sS mM aA bB tT cC AA QQ hC hr hnm hQ => ?_)
  refine V_iload_n hC dJ8_newLength_cabcc_0 0 rfl ?_
  refine V_iload_n hC dJ8_newLength_cabcc_1 1 rfl ?_
  refine V_iload_n hC dJ8_newLength_cabcc_2 2 rfl ?_
  refine V_mmax hC q1217 q694 q65 q695 (by decide) (Nat.le_of_ble_eq_true rfl) (by decide) (by decide) dJ8_newLength_cabcc_3 ?_
  refine V_eqi (y := 5) (by decide) ?_
  refine V_iadd hC dJ8_newLength_cabcc_6 ?_
  refine V_eqi (y := 15) (by decide) ?_
  refine V_istore_n hC dJ8_newLength_cabcc_7 (L' := [(3, .int 15), (0, .int 10), (1, .int 1), (2, .int 5)]) (by decide) rfl ?_
  refine V_iconst hC dJ8_newLength_cabcc_8 (v := 0) (by decide) ?_
  refine V_iload_n hC dJ8_newLength_cabcc_9 0 rfl ?_
  refine V_icmp_geF hC dJ8_newLength_cabcc_10 (tgt := 21) (by decide) (by decide) ?_
  refine V_iload_n hC dJ8_newLength_cabcc_13 0 rfl ?_
  refine V_ldc hC dJ8_newLength_cabcc_14 q1218 ?_
  refine V_icmp_gtF hC dJ8_newLength_cabcc_16 (tgt := 21) (by decide) (by decide) ?_
  refine V_iload_n hC dJ8_newLength_cabcc_19 0 rfl ?_
  exact V_iret hC hQ hr [] (u := []) (by decide) rfl (by decide) (by decide) dJ8_newLength_cabcc_20 (⟨rfl, rfl⟩)
set_option maxHeartbeats 4000000 in
set_option maxRecDepth 100000 in
/-- java/util/Arrays.copyOf -/
theorem c_AL_copy10c (l : Launch) (G : VG) (b : Nat) (e : Nat → Nat) (w : va_W) (hel : ∀ i, i < 10 → ∃ fs, (e i, .inr (10, fs)) ∈ w) : Mr l G yJ7_copyOf_6403c cJ7_copyOf_6403c 4 (.array (.object "java/lang/Object")) 1 30 1 15 [.ref b, .int 15, .ref (G.2.2 5)] [[(b, .inl (G.2.1 8, 10, .inr (.inr (.inr (.inr (rfN 10 e))))))], w] (fun r v => ∃ q : Nat, q = r ∧ v = [[(b, .inl (G.2.1 8, 10, .inr (.inr (.inr (.inr (rfN 10 e))))))], w, [(q, .inl (G.2.1 8, 15, .inr (.inr (.inr (.inr (va_cpy (rfN 10 e) (fun _ => none) 0 0 10))))))]]) := by
  refine Mr_of (by decide) (Nat.le_of_ble_eq_true rfl) (fun pP eE sS mM aA bB tT cC AA QQ hC hr hnm hQ => ?_)
  refine V_aload_n hC dJ7_copyOf_6403c_0 2 rfl ?_
  refine V_ldcM hC dJ7_copyOf_6403c_1 q1248 ?_
  refine V_acmp_neF hC dJ7_copyOf_6403c_3 (tgt := 13) (by decide) ?_
  refine V_iload_n hC dJ7_copyOf_6403c_6 1 rfl ?_
  refine V_newq hC 8 rfl q1250 (by decide) (N := 15) (by decide) (by decide) (by decide) (by decide) (by decide) dJ7_copyOf_6403c_7 (fun q1 => ?_)
  refine V_goto hC dJ7_copyOf_6403c_10 (tgt := 24) (by decide) ?_
  refine V_astore_n hC dJ7_copyOf_6403c_24 (L' := [(3, .ref q1), (0, .ref b), (1, .int 15), (2, .ref (G.2.2 5))]) (by decide) rfl ?_
  refine V_aload_n hC dJ7_copyOf_6403c_25 1 rfl ?_
  refine V_iconst hC dJ7_copyOf_6403c_26 (v := 0) (by decide) ?_
  refine V_aload_n hC dJ7_copyOf_6403c_27 0 rfl ?_
  refine V_iconst hC dJ7_copyOf_6403c_28 (v := 0) (by decide) ?_
  refine V_aload_n hC dJ7_copyOf_6403c_29 1 rfl ?_
  refine V_alen hC dJ7_copyOf_6403c_30 8 rfl (mem_at 0 0 rfl rfl) (v := 10) (rfl) ?_
  refine V_iload_n hC dJ7_copyOf_6403c_31 2 rfl ?_
  refine V_mmin hC q1251 q629 q65 q630 (by decide) (Nat.le_of_ble_eq_true rfl) (by decide) (by decide) dJ7_copyOf_6403c_32 ?_
  refine V_eqi (y := 10) (by decide) ?_
  refine V_copyq hC q1252 q1147 q1146 q63 soft_cs (mem_at 0 0 rfl rfl) 2 0 rfl rfl 0 0 10 (by rfl) (by rfl) (by rfl) (by first | decide | omega) (by first | decide | omega) (by first | decide | omega) (by first | decide | omega) (fun i hi y hy => by rw [Nat.zero_add] at hy; rw [rfN_at hi] at hy; obtain rfl := Option.some.inj hy; obtain ⟨fs, hf⟩ := hel i hi; exact ⟨fs, mem_pc 1 rfl hf⟩) (by decide) (by decide) (ps' := [[(b, .inl (G.2.1 8, 10, .inr (.inr (.inr (.inr (rfN 10 e))))))], w, [(q1, .inl (G.2.1 8, 15, .inr (.inr (.inr (.inr (va_cpy (rfN 10 e) (fun _ => none) 0 0 10))))))]]) rfl dJ7_copyOf_6403c_35 ?_
  refine V_aload_n hC dJ7_copyOf_6403c_38 0 rfl ?_
  exact V_aret hC hQ hr (Or.inr ⟨_, rfl⟩) [0, 1, 2] (u := [[(b, .inl (G.2.1 8, 10, .inr (.inr (.inr (.inr (rfN 10 e))))))], w, [(q1, .inl (G.2.1 8, 15, .inr (.inr (.inr (.inr (va_cpy (rfN 10 e) (fun _ => none) 0 0 10))))))]]) (by decide) rfl (by decide) (by decide) dJ7_copyOf_6403c_39 (⟨_, rfl, rfl⟩)
set_option maxHeartbeats 4000000 in
set_option maxRecDepth 100000 in
/-- java/util/Arrays.copyOf -/
theorem c_AL_copy10 (l : Launch) (G : VG) (b : Nat) (e : Nat → Nat) (w : va_W) (hel : ∀ i, i < 10 → ∃ fs, (e i, .inr (10, fs)) ∈ w) : Mr l G yJ7_copyOf_1904c cJ7_copyOf_1904c 2 (.array (.object "java/lang/Object")) 2 53 1 15 [.ref b, .int 15] [[(b, .inl (G.2.1 8, 10, .inr (.inr (.inr (.inr (rfN 10 e))))))], w] (fun r v => ∃ q : Nat, q = r ∧ v = [[(b, .inl (G.2.1 8, 10, .inr (.inr (.inr (.inr (rfN 10 e))))))], w, [(q, .inl (G.2.1 8, 15, .inr (.inr (.inr (.inr (va_cpy (rfN 10 e) (fun _ => none) 0 0 10))))))]]) := by
  refine Mr_of (by decide) (Nat.le_of_ble_eq_true rfl) (fun pP eE sS mM aA bB tT cC AA QQ hC hr hnm hQ => ?_)
  refine V_aload_n hC dJ7_copyOf_1904c_0 0 rfl ?_
  refine V_iload_n hC dJ7_copyOf_1904c_1 1 rfl ?_
  refine V_aload_n hC dJ7_copyOf_1904c_2 0 rfl ?_
  refine V_getC hC dJ7_copyOf_1904c_3 q1225 soft_gc q1541 q1226 q1244 (mem_at 0 0 rfl rfl) (by decide) (Nat.le_of_ble_eq_true rfl) ?_
  refine V_callr hC (V_runS hC (rest := []) [.ref b, .int 15, .ref (G.2.2 5)] (Mr_sz (c_AL_copy10c l G b e w hel)) [0, 1] rfl (by decide) q1245 q1246 q67 q1247 ⟨by decide, by decide, rfl⟩ ⟨by decide, by decide⟩ rfl (Nat.le_of_ble_eq_true rfl) ⟨by decide, by decide⟩ dJ7_copyOf_1904c_6) (is := [0, 1]) rfl [] (rs := []) rfl (by decide) (by decide) ?_
  rintro _ _ ⟨q1, rfl, rfl⟩
  exact V_aret hC hQ hr (Or.inr ⟨_, rfl⟩) [0, 1, 2] (u := [[(b, .inl (G.2.1 8, 10, .inr (.inr (.inr (.inr (rfN 10 e))))))], w, [(q1, .inl (G.2.1 8, 15, .inr (.inr (.inr (.inr (va_cpy (rfN 10 e) (fun _ => none) 0 0 10))))))]]) (by decide) rfl (by decide) (by decide) dJ7_copyOf_1904c_9 (⟨_, rfl, rfl⟩)
set_option maxHeartbeats 4000000 in
set_option maxRecDepth 100000 in
/-- java/util/ArrayList.grow -/
theorem c_AL_grow10I (l : Launch) (G : VG) (a : Nat) (m : Int32) (b : Nat) (e : Nat → Nat) (w : va_W) (hel : ∀ i, i < 10 → ∃ fs, (e i, .inr (10, fs)) ∈ w) : Mr l G yJx4a65c_grow_92f84 cJx4a65c_grow_92f84 4 (.array (.object "java/lang/Object")) 3 74 1 15 [.ref a, .int 11] [[(a, .inr (0, [.int m, .ref b, .int (nI 10)]))], [(b, .inl (G.2.1 8, 10, .inr (.inr (.inr (.inr (rfN 10 e))))))], w] (fun r v => ∃ q : Nat, q = r ∧ v = [[(a, .inr (0, [.int m, .ref q, .int (nI 10)]))], [(q, .inl (G.2.1 8, 15, .inr (.inr (.inr (.inr (va_cpy (rfN 10 e) (fun _ => none) 0 0 10))))))], w]) := by
  refine Mr_of (by decide) (Nat.le_of_ble_eq_true rfl) (fun pP eE sS mM aA bB tT cC AA QQ hC hr hnm hQ => ?_)
  refine V_aload_n hC dJx4a65c_grow_92f84_0 0 rfl ?_
  refine V_get hC dJx4a65c_grow_92f84_1 inAJx4a65c (mem_at 0 0 rfl rfl) rfl 1 (by decide) q961 rfl (v := .ref b) rfl ?_
  refine V_alen hC dJx4a65c_grow_92f84_4 8 rfl (mem_at 1 0 rfl rfl) (v := 10) (rfl) ?_
  refine V_istore_n hC dJx4a65c_grow_92f84_5 (L' := [(2, .int 10), (0, .ref a), (1, .int 11)]) (by decide) rfl ?_
  refine V_iload_n hC dJx4a65c_grow_92f84_6 0 rfl ?_
  refine V_if_gtT hC dJx4a65c_grow_92f84_7 (tgt := 20) (by decide) (by decide) ?_
  refine V_iload_n hC dJx4a65c_grow_92f84_20 0 rfl ?_
  refine V_iload_n hC dJx4a65c_grow_92f84_21 2 rfl ?_
  refine V_iload_n hC dJx4a65c_grow_92f84_22 0 rfl ?_
  refine V_isub hC dJx4a65c_grow_92f84_23 ?_
  refine V_eqi (y := 1) (by decide) ?_
  refine V_iload_n hC dJx4a65c_grow_92f84_24 0 rfl ?_
  refine V_iconst hC dJx4a65c_grow_92f84_25 (v := 1) (by decide) ?_
  refine V_ishr hC dJx4a65c_grow_92f84_26 ?_
  refine V_eqi (y := 5) (by decide) ?_
  refine V_calli hC (V_runS hC (rest := []) [.int 10, .int 1, .int 5] (c_AL_len10 l G) [] rfl (by decide) q1214 q1215 q66 q1216 ⟨by decide, by decide, rfl⟩ ⟨by decide, by decide⟩ rfl (Nat.le_of_ble_eq_true rfl) ⟨by decide, by decide⟩ dJx4a65c_grow_92f84_27) (is := []) rfl [0, 1, 2] (rs := [[(a, .inr (0, [.int m, .ref b, .int (nI 10)]))], [(b, .inl (G.2.1 8, 10, .inr (.inr (.inr (.inr (rfN 10 e))))))], w]) rfl (by decide) (by decide) ?_
  rintro _ _ ⟨rfl, rfl⟩
  refine V_istore_n hC dJx4a65c_grow_92f84_30 (L' := [(3, .int 15), (2, .int 10), (0, .ref a), (1, .int 11)]) (by decide) rfl ?_
  refine V_aload_n hC dJx4a65c_grow_92f84_31 2 rfl ?_
  refine V_aload_n hC dJx4a65c_grow_92f84_32 2 rfl ?_
  refine V_get hC dJx4a65c_grow_92f84_33 inAJx4a65c (mem_at 0 0 rfl rfl) rfl 1 (by decide) q961 rfl (v := .ref b) rfl ?_
  refine V_iload_n hC dJx4a65c_grow_92f84_36 0 rfl ?_
  refine V_callr hC (V_runS hC (rest := [.ref a]) [.ref b, .int 15] (Mr_sz (c_AL_copy10 l G b e w hel)) [1, 2] rfl (by decide) q1222 q1223 q67 q1224 ⟨by decide, by decide, rfl⟩ ⟨by decide, by decide⟩ rfl (Nat.le_of_ble_eq_true rfl) ⟨by decide, by decide⟩ dJx4a65c_grow_92f84_37) (is := [1, 2]) rfl [0] (rs := [[(a, .inr (0, [.int m, .ref b, .int (nI 10)]))]]) rfl (by decide) (by decide) ?_
  rintro _ _ ⟨q1, rfl, rfl⟩
  refine V_dup_x1 hC dJx4a65c_grow_92f84_40 rfl rfl ?_
  refine V_put hC dJx4a65c_grow_92f84_41 inAJx4a65c tyJx4a65c tyJx4a65c_ok nmJx4a65c 3 0 rfl rfl rfl 1 (by decide) q961 rfl rfl (rfl) (rfl) (Nat.le_of_ble_eq_true rfl) (ps' := [[(b, .inl (G.2.1 8, 10, .inr (.inr (.inr (.inr (rfN 10 e))))))], w, [(q1, .inl (G.2.1 8, 15, .inr (.inr (.inr (.inr (va_cpy (rfN 10 e) (fun _ => none) 0 0 10))))))], [(a, .inr (0, [.int m, .ref q1, .int (nI 10)]))]]) rfl ?_
  exact V_aret hC hQ hr (Or.inr ⟨_, rfl⟩) [3, 2, 1] (u := [[(a, .inr (0, [.int m, .ref q1, .int (nI 10)]))], [(q1, .inl (G.2.1 8, 15, .inr (.inr (.inr (.inr (va_cpy (rfN 10 e) (fun _ => none) 0 0 10))))))], w]) (by decide) rfl (by decide) (by decide) dJx4a65c_grow_92f84_44 (⟨_, rfl, rfl⟩)
set_option maxHeartbeats 4000000 in
set_option maxRecDepth 100000 in
/-- java/util/ArrayList.grow -/
theorem c_AL_grow10 (l : Launch) (G : VG) (a : Nat) (m : Int32) (b : Nat) (e : Nat → Nat) (w : va_W) (hel : ∀ i, i < 10 → ∃ fs, (e i, .inr (10, fs)) ∈ w) : Mr l G yJx4a65c_grow_d5877 cJx4a65c_grow_d5877 1 (.array (.object "java/lang/Object")) 4 97 1 15 [.ref a] [[(a, .inr (0, [.int m, .ref b, .int (nI 10)]))], [(b, .inl (G.2.1 8, 10, .inr (.inr (.inr (.inr (rfN 10 e))))))], w] (fun r v => ∃ q : Nat, q = r ∧ v = [[(a, .inr (0, [.int m, .ref q, .int (nI 10)]))], [(q, .inl (G.2.1 8, 15, .inr (.inr (.inr (.inr (va_cpy (rfN 10 e) (fun _ => none) 0 0 10))))))], w]) := by
  refine Mr_of (by decide) (Nat.le_of_ble_eq_true rfl) (fun pP eE sS mM aA bB tT cC AA QQ hC hr hnm hQ => ?_)
  refine V_aload_n hC dJx4a65c_grow_d5877_0 0 rfl ?_
  refine V_aload_n hC dJx4a65c_grow_d5877_1 0 rfl ?_
  refine V_get hC dJx4a65c_grow_d5877_2 inAJx4a65c (mem_at 0 0 rfl rfl) rfl 2 (by decide) q962 rfl (v := .int (nI 10)) rfl ?_
  refine V_iconst hC dJx4a65c_grow_d5877_5 (v := 1) (by decide) ?_
  refine V_iadd hC dJx4a65c_grow_d5877_6 ?_
  refine V_eqi (y := 11) (by decide) ?_
  refine V_callr hC (V_runV hC (rest := []) [.int 11] (Mr_sz (c_AL_grow10I l G a m b e w hel)) [0, 1, 2] rfl (by decide) q1210 q1212 q27 q55 q1213 ⟨by decide, by decide, rfl⟩ ⟨by decide, by decide⟩ (ci := 0) rfl (mem_at 0 0 rfl rfl) rfl (Nat.le_of_ble_eq_true rfl) ⟨by decide, by decide⟩ dJx4a65c_grow_d5877_7) (is := [0, 1, 2]) rfl [] (rs := []) rfl (by decide) (by decide) ?_
  rintro _ _ ⟨q1, rfl, rfl⟩
  exact V_aret hC hQ hr (Or.inr ⟨_, rfl⟩) [0, 1, 2] (u := [[(a, .inr (0, [.int m, .ref q1, .int (nI 10)]))], [(q1, .inl (G.2.1 8, 15, .inr (.inr (.inr (.inr (va_cpy (rfN 10 e) (fun _ => none) 0 0 10))))))], w]) (by decide) rfl (by decide) (by decide) dJx4a65c_grow_d5877_10 (⟨_, rfl, rfl⟩)
set_option maxHeartbeats 4000000 in
set_option maxRecDepth 100000 in
/-- java/util/ArrayList.add -/
theorem c_AL_addq10 (l : Launch) (G : VG) (a : Nat) (m : Int32) (b : Nat) (e : Nat → Nat) (x : Nat) (w : va_W) (fs : List Value) (hel : ∀ i, i < 10 → ∃ fs, (e i, .inr (10, fs)) ∈ w) (hx : (x, .inr (10, fs)) ∈ w) : Mv l G yJx4a65c_add_72be8 cJx4a65c_add_72be8 4 5 117 1 15 [.ref a, .ref x, .ref b, .int (nI 10)] [[(a, .inr (0, [.int m, .ref b, .int (nI 10)]))], [(b, .inl (G.2.1 8, 10, .inr (.inr (.inr (.inr (rfN 10 e))))))], w] (fun v => ∃ q : Nat, v = [[(a, .inr (0, [.int m, .ref q, .int (nI 11)]))], [(q, .inl (G.2.1 8, 15, .inr (.inr (.inr (.inr (va_up (va_cpy (rfN 10 e) (fun _ => none) 0 0 10) 10 (some x)))))))], w]) := by
  refine Mv_of (by decide) (Nat.le_of_ble_eq_true rfl) (fun pP eE sS mM aA bB tT cC AA QQ hC hr hnm hQ => ?_)
  refine V_iload_n hC dJx4a65c_add_72be8_0 3 rfl ?_
  refine V_aload_n hC dJx4a65c_add_72be8_1 2 rfl ?_
  refine V_alen hC dJx4a65c_add_72be8_2 8 rfl (mem_at 1 0 rfl rfl) (v := 10) (rfl) ?_
  refine V_icmp_neF hC dJx4a65c_add_72be8_3 (tgt := 11) (by decide) (by decide) ?_
  refine V_aload_n hC dJx4a65c_add_72be8_6 0 rfl ?_
  refine V_callr hC (V_runV hC (rest := []) [] (Mr_sz (c_AL_grow10 l G a m b e w hel)) [0, 1, 2] rfl (by decide) q1206 q1208 q26 q55 q1209 ⟨by decide, by decide, rfl⟩ ⟨by decide, by decide⟩ (ci := 0) rfl (mem_at 0 0 rfl rfl) rfl (Nat.le_of_ble_eq_true rfl) ⟨by decide, by decide⟩ dJx4a65c_add_72be8_7) (is := [0, 1, 2]) rfl [] (rs := []) rfl (by decide) (by decide) ?_
  rintro _ _ ⟨q1, rfl, rfl⟩
  refine V_astore_n hC dJx4a65c_add_72be8_10 (L' := [(2, .ref q1), (0, .ref a), (1, .ref x), (3, .int (nI 10))]) (by decide) rfl ?_
  refine V_aload_n hC dJx4a65c_add_72be8_11 0 rfl ?_
  refine V_iload_n hC dJx4a65c_add_72be8_12 3 rfl ?_
  refine V_aload_n hC dJx4a65c_add_72be8_13 2 rfl ?_
  refine V_aastO hC dJx4a65c_add_72be8_14 1 8 0 10 rfl soft_cs rfl rfl rfl (mem_pc 2 rfl hx) (vin (by decide)) (z := 10) (by decide) (ps' := [[(a, .inr (0, [.int m, .ref q1, .int (nI 10)]))], [(q1, .inl (G.2.1 8, 15, .inr (.inr (.inr (.inr (va_up (va_cpy (rfN 10 e) (fun _ => none) 0 0 10) 10 (some x)))))))], w]) rfl ?_
  refine V_aload_n hC dJx4a65c_add_72be8_15 1 rfl ?_
  refine V_iload_n hC dJx4a65c_add_72be8_16 3 rfl ?_
  refine V_iconst hC dJx4a65c_add_72be8_17 (v := 1) (by decide) ?_
  refine V_iadd hC dJx4a65c_add_72be8_18 ?_
  refine V_eqi (y := nI 11) (by decide) ?_
  refine V_put hC dJx4a65c_add_72be8_19 inAJx4a65c tyJx4a65c tyJx4a65c_ok nmJx4a65c 0 0 rfl rfl rfl 2 (by decide) q962 rfl rfl (rfl) (rfl) (Nat.le_of_ble_eq_true rfl) (ps' := [[(a, .inr (0, [.int m, .ref q1, .int (nI 11)]))], [(q1, .inl (G.2.1 8, 15, .inr (.inr (.inr (.inr (va_up (va_cpy (rfN 10 e) (fun _ => none) 0 0 10) 10 (some x)))))))], w]) rfl ?_
  exact V_vret hC hQ hr [0, 1, 2] (u := [[(a, .inr (0, [.int m, .ref q1, .int (nI 11)]))], [(q1, .inl (G.2.1 8, 15, .inr (.inr (.inr (.inr (va_up (va_cpy (rfN 10 e) (fun _ => none) 0 0 10) 10 (some x)))))))], w]) (by decide) rfl (by decide) (by decide) dJx4a65c_add_72be8_22 (⟨_, rfl⟩)
set_option maxHeartbeats 4000000 in
set_option maxRecDepth 100000 in
/-- java/util/ArrayList.add -/
theorem c_AL_addQ10 (l : Launch) (G : VG) (a : Nat) (m : Int32) (b : Nat) (e : Nat → Nat) (x : Nat) (w : va_W) (fs : List Value) (hel : ∀ i, i < 10 → ∃ fs, (e i, .inr (10, fs)) ∈ w) (hx : (x, .inr (10, fs)) ∈ w) : Mi l G yJx4a65c_add_9ea2d cJx4a65c_add_9ea2d 2 .boolean 6 200 1 33 [.ref a, .ref x] [[(a, .inr (0, [.int m, .ref b, .int (nI 10)]))], [(b, .inl (G.2.1 8, 10, .inr (.inr (.inr (.inr (rfN 10 e))))))], w] (fun r v => ∃ q : Nat, r = 1 ∧ v = [[(a, .inr (0, [.int (m + 1), .ref q, .int (nI 11)]))], [(q, .inl (G.2.1 8, 15, .inr (.inr (.inr (.inr (va_up (va_cpy (rfN 10 e) (fun _ => none) 0 0 10) 10 (some x)))))))], w]) := by
  refine Mi_of (by decide) (Nat.le_of_ble_eq_true rfl) (fun pP eE sS mM aA bB tT cC AA QQ hC hr hnm hQ => ?_)
  refine V_aload_n hC dJx4a65c_add_9ea2d_0 0 rfl ?_
  refine V_dup hC dJx4a65c_add_9ea2d_1 rfl ?_
  refine V_getS hC dJx4a65c_add_9ea2d_2 inAJx4a65c (mem_at 0 0 rfl rfl) rfl 0 (by decide) q964 q965 (v := .int m) rfl ?_
  refine V_iconst hC dJx4a65c_add_9ea2d_5 (v := 1) (by decide) ?_
  refine V_iadd hC dJx4a65c_add_9ea2d_6 ?_
  refine V_putS hC dJx4a65c_add_9ea2d_7 inAJx4a65c tyJx4a65c tyJx4a65c_ok nmJx4a65c 0 0 rfl rfl rfl 0 (by decide) q964 q965 rfl (rfl) (rfl) (Nat.le_of_ble_eq_true rfl) (ps' := [[(a, .inr (0, [.int (m + 1), .ref b, .int (nI 10)]))], [(b, .inl (G.2.1 8, 10, .inr (.inr (.inr (.inr (rfN 10 e))))))], w]) rfl ?_
  refine V_aload_n hC dJx4a65c_add_9ea2d_10 0 rfl ?_
  refine V_aload_n hC dJx4a65c_add_9ea2d_11 1 rfl ?_
  refine V_aload_n hC dJx4a65c_add_9ea2d_12 0 rfl ?_
  refine V_get hC dJx4a65c_add_9ea2d_13 inAJx4a65c (mem_at 0 0 rfl rfl) rfl 1 (by decide) q961 rfl (v := .ref b) rfl ?_
  refine V_aload_n hC dJx4a65c_add_9ea2d_16 0 rfl ?_
  refine V_get hC dJx4a65c_add_9ea2d_17 inAJx4a65c (mem_at 0 0 rfl rfl) rfl 2 (by decide) q962 rfl (v := .int (nI 10)) rfl ?_
  refine V_callv hC (V_runV hC (rest := []) [.ref x, .ref b, .int (nI 10)] (c_AL_addq10 l G a (m + 1) b e x w fs hel hx) [0, 1, 2] rfl (by decide) q1202 q1204 q25 q55 q1205 ⟨by decide, by decide, rfl⟩ ⟨by decide, by decide⟩ (ci := 0) rfl (mem_at 0 0 rfl rfl) rfl (Nat.le_of_ble_eq_true rfl) ⟨by decide, by decide⟩ dJx4a65c_add_9ea2d_20) (is := [0, 1, 2]) rfl [] (rs := []) rfl (by decide) (by decide) ?_
  rintro _ ⟨q1, rfl⟩
  refine V_iconst hC dJx4a65c_add_9ea2d_23 (v := 1) (by decide) ?_
  exact V_zret hC hQ hr (by decide) [0, 1, 2] (u := [[(a, .inr (0, [.int (m + 1), .ref q1, .int (nI 11)]))], [(q1, .inl (G.2.1 8, 15, .inr (.inr (.inr (.inr (va_up (va_cpy (rfN 10 e) (fun _ => none) 0 0 10) 10 (some x)))))))], w]) (by decide) rfl (by decide) (by decide) dJx4a65c_add_9ea2d_24 (⟨_, rfl, rfl⟩)
set_option maxHeartbeats 4000000 in
set_option maxRecDepth 100000 in
/-- jdk/internal/util/ArraysSupport.newLength -/
theorem c_AL_len15 (l : Launch) (G : VG) : Mi l G yJ8_newLength_cabcc cJ8_newLength_cabcc 4 .int 1 14 0 0 [.int 15, .int 1, .int 7] [] (fun r u => r = 22 ∧ u = []) := by
  refine Mi_of (by decide) (Nat.le_of_ble_eq_true rfl) (fun pP eE sS mM aA bB tT cC AA QQ hC hr hnm hQ => ?_)
  refine V_iload_n hC dJ8_newLength_cabcc_0 0 rfl ?_
  refine V_iload_n hC dJ8_newLength_cabcc_1 1 rfl ?_
  refine V_iload_n hC dJ8_newLength_cabcc_2 2 rfl ?_
  refine V_mmax hC q1217 q694 q65 q695 (by decide) (Nat.le_of_ble_eq_true rfl) (by decide) (by decide) dJ8_newLength_cabcc_3 ?_
  refine V_eqi (y := 7) (by decide) ?_
  refine V_iadd hC dJ8_newLength_cabcc_6 ?_
  refine V_eqi (y := 22) (by decide) ?_
  refine V_istore_n hC dJ8_newLength_cabcc_7 (L' := [(3, .int 22), (0, .int 15), (1, .int 1), (2, .int 7)]) (by decide) rfl ?_
  refine V_iconst hC dJ8_newLength_cabcc_8 (v := 0) (by decide) ?_
  refine V_iload_n hC dJ8_newLength_cabcc_9 0 rfl ?_
  refine V_icmp_geF hC dJ8_newLength_cabcc_10 (tgt := 21) (by decide) (by decide) ?_
  refine V_iload_n hC dJ8_newLength_cabcc_13 0 rfl ?_
  refine V_ldc hC dJ8_newLength_cabcc_14 q1218 ?_
  refine V_icmp_gtF hC dJ8_newLength_cabcc_16 (tgt := 21) (by decide) (by decide) ?_
  refine V_iload_n hC dJ8_newLength_cabcc_19 0 rfl ?_
  exact V_iret hC hQ hr [] (u := []) (by decide) rfl (by decide) (by decide) dJ8_newLength_cabcc_20 (⟨rfl, rfl⟩)
set_option maxHeartbeats 4000000 in
set_option maxRecDepth 100000 in
/-- java/util/Arrays.copyOf -/
theorem c_AL_copy15c (l : Launch) (G : VG) (b : Nat) (e : Nat → Nat) (w : va_W) (hel : ∀ i, i < 15 → ∃ fs, (e i, .inr (10, fs)) ∈ w) : Mr l G yJ7_copyOf_6403c cJ7_copyOf_6403c 4 (.array (.object "java/lang/Object")) 1 30 1 22 [.ref b, .int 22, .ref (G.2.2 5)] [[(b, .inl (G.2.1 8, 15, .inr (.inr (.inr (.inr (rfN 15 e))))))], w] (fun r v => ∃ q : Nat, q = r ∧ v = [[(b, .inl (G.2.1 8, 15, .inr (.inr (.inr (.inr (rfN 15 e))))))], w, [(q, .inl (G.2.1 8, 22, .inr (.inr (.inr (.inr (va_cpy (rfN 15 e) (fun _ => none) 0 0 15))))))]]) := by
  refine Mr_of (by decide) (Nat.le_of_ble_eq_true rfl) (fun pP eE sS mM aA bB tT cC AA QQ hC hr hnm hQ => ?_)
  refine V_aload_n hC dJ7_copyOf_6403c_0 2 rfl ?_
  refine V_ldcM hC dJ7_copyOf_6403c_1 q1248 ?_
  refine V_acmp_neF hC dJ7_copyOf_6403c_3 (tgt := 13) (by decide) ?_
  refine V_iload_n hC dJ7_copyOf_6403c_6 1 rfl ?_
  refine V_newq hC 8 rfl q1250 (by decide) (N := 22) (by decide) (by decide) (by decide) (by decide) (by decide) dJ7_copyOf_6403c_7 (fun q1 => ?_)
  refine V_goto hC dJ7_copyOf_6403c_10 (tgt := 24) (by decide) ?_
  refine V_astore_n hC dJ7_copyOf_6403c_24 (L' := [(3, .ref q1), (0, .ref b), (1, .int 22), (2, .ref (G.2.2 5))]) (by decide) rfl ?_
  refine V_aload_n hC dJ7_copyOf_6403c_25 1 rfl ?_
  refine V_iconst hC dJ7_copyOf_6403c_26 (v := 0) (by decide) ?_
  refine V_aload_n hC dJ7_copyOf_6403c_27 0 rfl ?_
  refine V_iconst hC dJ7_copyOf_6403c_28 (v := 0) (by decide) ?_
  refine V_aload_n hC dJ7_copyOf_6403c_29 1 rfl ?_
  refine V_alen hC dJ7_copyOf_6403c_30 8 rfl (mem_at 0 0 rfl rfl) (v := 15) (rfl) ?_
  refine V_iload_n hC dJ7_copyOf_6403c_31 2 rfl ?_
  refine V_mmin hC q1251 q629 q65 q630 (by decide) (Nat.le_of_ble_eq_true rfl) (by decide) (by decide) dJ7_copyOf_6403c_32 ?_
  refine V_eqi (y := 15) (by decide) ?_
  refine V_copyq hC q1252 q1147 q1146 q63 soft_cs (mem_at 0 0 rfl rfl) 2 0 rfl rfl 0 0 15 (by rfl) (by rfl) (by rfl) (by first | decide | omega) (by first | decide | omega) (by first | decide | omega) (by first | decide | omega) (fun i hi y hy => by rw [Nat.zero_add] at hy; rw [rfN_at hi] at hy; obtain rfl := Option.some.inj hy; obtain ⟨fs, hf⟩ := hel i hi; exact ⟨fs, mem_pc 1 rfl hf⟩) (by decide) (by decide) (ps' := [[(b, .inl (G.2.1 8, 15, .inr (.inr (.inr (.inr (rfN 15 e))))))], w, [(q1, .inl (G.2.1 8, 22, .inr (.inr (.inr (.inr (va_cpy (rfN 15 e) (fun _ => none) 0 0 15))))))]]) rfl dJ7_copyOf_6403c_35 ?_
  refine V_aload_n hC dJ7_copyOf_6403c_38 0 rfl ?_
  exact V_aret hC hQ hr (Or.inr ⟨_, rfl⟩) [0, 1, 2] (u := [[(b, .inl (G.2.1 8, 15, .inr (.inr (.inr (.inr (rfN 15 e))))))], w, [(q1, .inl (G.2.1 8, 22, .inr (.inr (.inr (.inr (va_cpy (rfN 15 e) (fun _ => none) 0 0 15))))))]]) (by decide) rfl (by decide) (by decide) dJ7_copyOf_6403c_39 (⟨_, rfl, rfl⟩)
set_option maxHeartbeats 4000000 in
set_option maxRecDepth 100000 in
/-- java/util/Arrays.copyOf -/
theorem c_AL_copy15 (l : Launch) (G : VG) (b : Nat) (e : Nat → Nat) (w : va_W) (hel : ∀ i, i < 15 → ∃ fs, (e i, .inr (10, fs)) ∈ w) : Mr l G yJ7_copyOf_1904c cJ7_copyOf_1904c 2 (.array (.object "java/lang/Object")) 2 53 1 22 [.ref b, .int 22] [[(b, .inl (G.2.1 8, 15, .inr (.inr (.inr (.inr (rfN 15 e))))))], w] (fun r v => ∃ q : Nat, q = r ∧ v = [[(b, .inl (G.2.1 8, 15, .inr (.inr (.inr (.inr (rfN 15 e))))))], w, [(q, .inl (G.2.1 8, 22, .inr (.inr (.inr (.inr (va_cpy (rfN 15 e) (fun _ => none) 0 0 15))))))]]) := by
  refine Mr_of (by decide) (Nat.le_of_ble_eq_true rfl) (fun pP eE sS mM aA bB tT cC AA QQ hC hr hnm hQ => ?_)
  refine V_aload_n hC dJ7_copyOf_1904c_0 0 rfl ?_
  refine V_iload_n hC dJ7_copyOf_1904c_1 1 rfl ?_
  refine V_aload_n hC dJ7_copyOf_1904c_2 0 rfl ?_
  refine V_getC hC dJ7_copyOf_1904c_3 q1225 soft_gc q1541 q1226 q1244 (mem_at 0 0 rfl rfl) (by decide) (Nat.le_of_ble_eq_true rfl) ?_
  refine V_callr hC (V_runS hC (rest := []) [.ref b, .int 22, .ref (G.2.2 5)] (Mr_sz (c_AL_copy15c l G b e w hel)) [0, 1] rfl (by decide) q1245 q1246 q67 q1247 ⟨by decide, by decide, rfl⟩ ⟨by decide, by decide⟩ rfl (Nat.le_of_ble_eq_true rfl) ⟨by decide, by decide⟩ dJ7_copyOf_1904c_6) (is := [0, 1]) rfl [] (rs := []) rfl (by decide) (by decide) ?_
  rintro _ _ ⟨q1, rfl, rfl⟩
  exact V_aret hC hQ hr (Or.inr ⟨_, rfl⟩) [0, 1, 2] (u := [[(b, .inl (G.2.1 8, 15, .inr (.inr (.inr (.inr (rfN 15 e))))))], w, [(q1, .inl (G.2.1 8, 22, .inr (.inr (.inr (.inr (va_cpy (rfN 15 e) (fun _ => none) 0 0 15))))))]]) (by decide) rfl (by decide) (by decide) dJ7_copyOf_1904c_9 (⟨_, rfl, rfl⟩)
set_option maxHeartbeats 4000000 in
set_option maxRecDepth 100000 in
/-- java/util/ArrayList.grow -/
theorem c_AL_grow15I (l : Launch) (G : VG) (a : Nat) (m : Int32) (b : Nat) (e : Nat → Nat) (w : va_W) (hel : ∀ i, i < 15 → ∃ fs, (e i, .inr (10, fs)) ∈ w) : Mr l G yJx4a65c_grow_92f84 cJx4a65c_grow_92f84 4 (.array (.object "java/lang/Object")) 3 74 1 22 [.ref a, .int 16] [[(a, .inr (0, [.int m, .ref b, .int (nI 15)]))], [(b, .inl (G.2.1 8, 15, .inr (.inr (.inr (.inr (rfN 15 e))))))], w] (fun r v => ∃ q : Nat, q = r ∧ v = [[(a, .inr (0, [.int m, .ref q, .int (nI 15)]))], [(q, .inl (G.2.1 8, 22, .inr (.inr (.inr (.inr (va_cpy (rfN 15 e) (fun _ => none) 0 0 15))))))], w]) := by
  refine Mr_of (by decide) (Nat.le_of_ble_eq_true rfl) (fun pP eE sS mM aA bB tT cC AA QQ hC hr hnm hQ => ?_)
  refine V_aload_n hC dJx4a65c_grow_92f84_0 0 rfl ?_
  refine V_get hC dJx4a65c_grow_92f84_1 inAJx4a65c (mem_at 0 0 rfl rfl) rfl 1 (by decide) q961 rfl (v := .ref b) rfl ?_
  refine V_alen hC dJx4a65c_grow_92f84_4 8 rfl (mem_at 1 0 rfl rfl) (v := 15) (rfl) ?_
  refine V_istore_n hC dJx4a65c_grow_92f84_5 (L' := [(2, .int 15), (0, .ref a), (1, .int 16)]) (by decide) rfl ?_
  refine V_iload_n hC dJx4a65c_grow_92f84_6 0 rfl ?_
  refine V_if_gtT hC dJx4a65c_grow_92f84_7 (tgt := 20) (by decide) (by decide) ?_
  refine V_iload_n hC dJx4a65c_grow_92f84_20 0 rfl ?_
  refine V_iload_n hC dJx4a65c_grow_92f84_21 2 rfl ?_
  refine V_iload_n hC dJx4a65c_grow_92f84_22 0 rfl ?_
  refine V_isub hC dJx4a65c_grow_92f84_23 ?_
  refine V_eqi (y := 1) (by decide) ?_
  refine V_iload_n hC dJx4a65c_grow_92f84_24 0 rfl ?_
  refine V_iconst hC dJx4a65c_grow_92f84_25 (v := 1) (by decide) ?_
  refine V_ishr hC dJx4a65c_grow_92f84_26 ?_
  refine V_eqi (y := 7) (by decide) ?_
  refine V_calli hC (V_runS hC (rest := []) [.int 15, .int 1, .int 7] (c_AL_len15 l G) [] rfl (by decide) q1214 q1215 q66 q1216 ⟨by decide, by decide, rfl⟩ ⟨by decide, by decide⟩ rfl (Nat.le_of_ble_eq_true rfl) ⟨by decide, by decide⟩ dJx4a65c_grow_92f84_27) (is := []) rfl [0, 1, 2] (rs := [[(a, .inr (0, [.int m, .ref b, .int (nI 15)]))], [(b, .inl (G.2.1 8, 15, .inr (.inr (.inr (.inr (rfN 15 e))))))], w]) rfl (by decide) (by decide) ?_
  rintro _ _ ⟨rfl, rfl⟩
  refine V_istore_n hC dJx4a65c_grow_92f84_30 (L' := [(3, .int 22), (2, .int 15), (0, .ref a), (1, .int 16)]) (by decide) rfl ?_
  refine V_aload_n hC dJx4a65c_grow_92f84_31 2 rfl ?_
  refine V_aload_n hC dJx4a65c_grow_92f84_32 2 rfl ?_
  refine V_get hC dJx4a65c_grow_92f84_33 inAJx4a65c (mem_at 0 0 rfl rfl) rfl 1 (by decide) q961 rfl (v := .ref b) rfl ?_
  refine V_iload_n hC dJx4a65c_grow_92f84_36 0 rfl ?_
  refine V_callr hC (V_runS hC (rest := [.ref a]) [.ref b, .int 22] (Mr_sz (c_AL_copy15 l G b e w hel)) [1, 2] rfl (by decide) q1222 q1223 q67 q1224 ⟨by decide, by decide, rfl⟩ ⟨by decide, by decide⟩ rfl (Nat.le_of_ble_eq_true rfl) ⟨by decide, by decide⟩ dJx4a65c_grow_92f84_37) (is := [1, 2]) rfl [0] (rs := [[(a, .inr (0, [.int m, .ref b, .int (nI 15)]))]]) rfl (by decide) (by decide) ?_
  rintro _ _ ⟨q1, rfl, rfl⟩
  refine V_dup_x1 hC dJx4a65c_grow_92f84_40 rfl rfl ?_
  refine V_put hC dJx4a65c_grow_92f84_41 inAJx4a65c tyJx4a65c tyJx4a65c_ok nmJx4a65c 3 0 rfl rfl rfl 1 (by decide) q961 rfl rfl (rfl) (rfl) (Nat.le_of_ble_eq_true rfl) (ps' := [[(b, .inl (G.2.1 8, 15, .inr (.inr (.inr (.inr (rfN 15 e))))))], w, [(q1, .inl (G.2.1 8, 22, .inr (.inr (.inr (.inr (va_cpy (rfN 15 e) (fun _ => none) 0 0 15))))))], [(a, .inr (0, [.int m, .ref q1, .int (nI 15)]))]]) rfl ?_
  exact V_aret hC hQ hr (Or.inr ⟨_, rfl⟩) [3, 2, 1] (u := [[(a, .inr (0, [.int m, .ref q1, .int (nI 15)]))], [(q1, .inl (G.2.1 8, 22, .inr (.inr (.inr (.inr (va_cpy (rfN 15 e) (fun _ => none) 0 0 15))))))], w]) (by decide) rfl (by decide) (by decide) dJx4a65c_grow_92f84_44 (⟨_, rfl, rfl⟩)
set_option maxHeartbeats 4000000 in
set_option maxRecDepth 100000 in
/-- java/util/ArrayList.grow -/
theorem c_AL_grow15 (l : Launch) (G : VG) (a : Nat) (m : Int32) (b : Nat) (e : Nat → Nat) (w : va_W) (hel : ∀ i, i < 15 → ∃ fs, (e i, .inr (10, fs)) ∈ w) : Mr l G yJx4a65c_grow_d5877 cJx4a65c_grow_d5877 1 (.array (.object "java/lang/Object")) 4 97 1 22 [.ref a] [[(a, .inr (0, [.int m, .ref b, .int (nI 15)]))], [(b, .inl (G.2.1 8, 15, .inr (.inr (.inr (.inr (rfN 15 e))))))], w] (fun r v => ∃ q : Nat, q = r ∧ v = [[(a, .inr (0, [.int m, .ref q, .int (nI 15)]))], [(q, .inl (G.2.1 8, 22, .inr (.inr (.inr (.inr (va_cpy (rfN 15 e) (fun _ => none) 0 0 15))))))], w]) := by
  refine Mr_of (by decide) (Nat.le_of_ble_eq_true rfl) (fun pP eE sS mM aA bB tT cC AA QQ hC hr hnm hQ => ?_)
  refine V_aload_n hC dJx4a65c_grow_d5877_0 0 rfl ?_
  refine V_aload_n hC dJx4a65c_grow_d5877_1 0 rfl ?_
  refine V_get hC dJx4a65c_grow_d5877_2 inAJx4a65c (mem_at 0 0 rfl rfl) rfl 2 (by decide) q962 rfl (v := .int (nI 15)) rfl ?_
  refine V_iconst hC dJx4a65c_grow_d5877_5 (v := 1) (by decide) ?_
  refine V_iadd hC dJx4a65c_grow_d5877_6 ?_
  refine V_eqi (y := 16) (by decide) ?_
  refine V_callr hC (V_runV hC (rest := []) [.int 16] (Mr_sz (c_AL_grow15I l G a m b e w hel)) [0, 1, 2] rfl (by decide) q1210 q1212 q27 q55 q1213 ⟨by decide, by decide, rfl⟩ ⟨by decide, by decide⟩ (ci := 0) rfl (mem_at 0 0 rfl rfl) rfl (Nat.le_of_ble_eq_true rfl) ⟨by decide, by decide⟩ dJx4a65c_grow_d5877_7) (is := [0, 1, 2]) rfl [] (rs := []) rfl (by decide) (by decide) ?_
  rintro _ _ ⟨q1, rfl, rfl⟩
  exact V_aret hC hQ hr (Or.inr ⟨_, rfl⟩) [0, 1, 2] (u := [[(a, .inr (0, [.int m, .ref q1, .int (nI 15)]))], [(q1, .inl (G.2.1 8, 22, .inr (.inr (.inr (.inr (va_cpy (rfN 15 e) (fun _ => none) 0 0 15))))))], w]) (by decide) rfl (by decide) (by decide) dJx4a65c_grow_d5877_10 (⟨_, rfl, rfl⟩)
set_option maxHeartbeats 4000000 in
set_option maxRecDepth 100000 in
/-- java/util/ArrayList.add -/
theorem c_AL_addq15 (l : Launch) (G : VG) (a : Nat) (m : Int32) (b : Nat) (e : Nat → Nat) (x : Nat) (w : va_W) (fs : List Value) (hel : ∀ i, i < 15 → ∃ fs, (e i, .inr (10, fs)) ∈ w) (hx : (x, .inr (10, fs)) ∈ w) : Mv l G yJx4a65c_add_72be8 cJx4a65c_add_72be8 4 5 117 1 22 [.ref a, .ref x, .ref b, .int (nI 15)] [[(a, .inr (0, [.int m, .ref b, .int (nI 15)]))], [(b, .inl (G.2.1 8, 15, .inr (.inr (.inr (.inr (rfN 15 e))))))], w] (fun v => ∃ q : Nat, v = [[(a, .inr (0, [.int m, .ref q, .int (nI 16)]))], [(q, .inl (G.2.1 8, 22, .inr (.inr (.inr (.inr (va_up (va_cpy (rfN 15 e) (fun _ => none) 0 0 15) 15 (some x)))))))], w]) := by
  refine Mv_of (by decide) (Nat.le_of_ble_eq_true rfl) (fun pP eE sS mM aA bB tT cC AA QQ hC hr hnm hQ => ?_)
  refine V_iload_n hC dJx4a65c_add_72be8_0 3 rfl ?_
  refine V_aload_n hC dJx4a65c_add_72be8_1 2 rfl ?_
  refine V_alen hC dJx4a65c_add_72be8_2 8 rfl (mem_at 1 0 rfl rfl) (v := 15) (rfl) ?_
  refine V_icmp_neF hC dJx4a65c_add_72be8_3 (tgt := 11) (by decide) (by decide) ?_
  refine V_aload_n hC dJx4a65c_add_72be8_6 0 rfl ?_
  refine V_callr hC (V_runV hC (rest := []) [] (Mr_sz (c_AL_grow15 l G a m b e w hel)) [0, 1, 2] rfl (by decide) q1206 q1208 q26 q55 q1209 ⟨by decide, by decide, rfl⟩ ⟨by decide, by decide⟩ (ci := 0) rfl (mem_at 0 0 rfl rfl) rfl (Nat.le_of_ble_eq_true rfl) ⟨by decide, by decide⟩ dJx4a65c_add_72be8_7) (is := [0, 1, 2]) rfl [] (rs := []) rfl (by decide) (by decide) ?_
  rintro _ _ ⟨q1, rfl, rfl⟩
  refine V_astore_n hC dJx4a65c_add_72be8_10 (L' := [(2, .ref q1), (0, .ref a), (1, .ref x), (3, .int (nI 15))]) (by decide) rfl ?_
  refine V_aload_n hC dJx4a65c_add_72be8_11 0 rfl ?_
  refine V_iload_n hC dJx4a65c_add_72be8_12 3 rfl ?_
  refine V_aload_n hC dJx4a65c_add_72be8_13 2 rfl ?_
  refine V_aastO hC dJx4a65c_add_72be8_14 1 8 0 10 rfl soft_cs rfl rfl rfl (mem_pc 2 rfl hx) (vin (by decide)) (z := 15) (by decide) (ps' := [[(a, .inr (0, [.int m, .ref q1, .int (nI 15)]))], [(q1, .inl (G.2.1 8, 22, .inr (.inr (.inr (.inr (va_up (va_cpy (rfN 15 e) (fun _ => none) 0 0 15) 15 (some x)))))))], w]) rfl ?_
  refine V_aload_n hC dJx4a65c_add_72be8_15 1 rfl ?_
  refine V_iload_n hC dJx4a65c_add_72be8_16 3 rfl ?_
  refine V_iconst hC dJx4a65c_add_72be8_17 (v := 1) (by decide) ?_
  refine V_iadd hC dJx4a65c_add_72be8_18 ?_
  refine V_eqi (y := nI 16) (by decide) ?_
  refine V_put hC dJx4a65c_add_72be8_19 inAJx4a65c tyJx4a65c tyJx4a65c_ok nmJx4a65c 0 0 rfl rfl rfl 2 (by decide) q962 rfl rfl (rfl) (rfl) (Nat.le_of_ble_eq_true rfl) (ps' := [[(a, .inr (0, [.int m, .ref q1, .int (nI 16)]))], [(q1, .inl (G.2.1 8, 22, .inr (.inr (.inr (.inr (va_up (va_cpy (rfN 15 e) (fun _ => none) 0 0 15) 15 (some x)))))))], w]) rfl ?_
  exact V_vret hC hQ hr [0, 1, 2] (u := [[(a, .inr (0, [.int m, .ref q1, .int (nI 16)]))], [(q1, .inl (G.2.1 8, 22, .inr (.inr (.inr (.inr (va_up (va_cpy (rfN 15 e) (fun _ => none) 0 0 15) 15 (some x)))))))], w]) (by decide) rfl (by decide) (by decide) dJx4a65c_add_72be8_22 (⟨_, rfl⟩)
set_option maxHeartbeats 4000000 in
set_option maxRecDepth 100000 in
/-- java/util/ArrayList.add -/
theorem c_AL_addQ15 (l : Launch) (G : VG) (a : Nat) (m : Int32) (b : Nat) (e : Nat → Nat) (x : Nat) (w : va_W) (fs : List Value) (hel : ∀ i, i < 15 → ∃ fs, (e i, .inr (10, fs)) ∈ w) (hx : (x, .inr (10, fs)) ∈ w) : Mi l G yJx4a65c_add_9ea2d cJx4a65c_add_9ea2d 2 .boolean 6 200 1 33 [.ref a, .ref x] [[(a, .inr (0, [.int m, .ref b, .int (nI 15)]))], [(b, .inl (G.2.1 8, 15, .inr (.inr (.inr (.inr (rfN 15 e))))))], w] (fun r v => ∃ q : Nat, r = 1 ∧ v = [[(a, .inr (0, [.int (m + 1), .ref q, .int (nI 16)]))], [(q, .inl (G.2.1 8, 22, .inr (.inr (.inr (.inr (va_up (va_cpy (rfN 15 e) (fun _ => none) 0 0 15) 15 (some x)))))))], w]) := by
  refine Mi_of (by decide) (Nat.le_of_ble_eq_true rfl) (fun pP eE sS mM aA bB tT cC AA QQ hC hr hnm hQ => ?_)
  refine V_aload_n hC dJx4a65c_add_9ea2d_0 0 rfl ?_
  refine V_dup hC dJx4a65c_add_9ea2d_1 rfl ?_
  refine V_getS hC dJx4a65c_add_9ea2d_2 inAJx4a65c (mem_at 0 0 rfl rfl) rfl 0 (by decide) q964 q965 (v := .int m) rfl ?_
  refine V_iconst hC dJx4a65c_add_9ea2d_5 (v := 1) (by decide) ?_
  refine V_iadd hC dJx4a65c_add_9ea2d_6 ?_
  refine V_putS hC dJx4a65c_add_9ea2d_7 inAJx4a65c tyJx4a65c tyJx4a65c_ok nmJx4a65c 0 0 rfl rfl rfl 0 (by decide) q964 q965 rfl (rfl) (rfl) (Nat.le_of_ble_eq_true rfl) (ps' := [[(a, .inr (0, [.int (m + 1), .ref b, .int (nI 15)]))], [(b, .inl (G.2.1 8, 15, .inr (.inr (.inr (.inr (rfN 15 e))))))], w]) rfl ?_
  refine V_aload_n hC dJx4a65c_add_9ea2d_10 0 rfl ?_
  refine V_aload_n hC dJx4a65c_add_9ea2d_11 1 rfl ?_
  refine V_aload_n hC dJx4a65c_add_9ea2d_12 0 rfl ?_
  refine V_get hC dJx4a65c_add_9ea2d_13 inAJx4a65c (mem_at 0 0 rfl rfl) rfl 1 (by decide) q961 rfl (v := .ref b) rfl ?_
  refine V_aload_n hC dJx4a65c_add_9ea2d_16 0 rfl ?_
  refine V_get hC dJx4a65c_add_9ea2d_17 inAJx4a65c (mem_at 0 0 rfl rfl) rfl 2 (by decide) q962 rfl (v := .int (nI 15)) rfl ?_
  refine V_callv hC (V_runV hC (rest := []) [.ref x, .ref b, .int (nI 15)] (c_AL_addq15 l G a (m + 1) b e x w fs hel hx) [0, 1, 2] rfl (by decide) q1202 q1204 q25 q55 q1205 ⟨by decide, by decide, rfl⟩ ⟨by decide, by decide⟩ (ci := 0) rfl (mem_at 0 0 rfl rfl) rfl (Nat.le_of_ble_eq_true rfl) ⟨by decide, by decide⟩ dJx4a65c_add_9ea2d_20) (is := [0, 1, 2]) rfl [] (rs := []) rfl (by decide) (by decide) ?_
  rintro _ ⟨q1, rfl⟩
  refine V_iconst hC dJx4a65c_add_9ea2d_23 (v := 1) (by decide) ?_
  exact V_zret hC hQ hr (by decide) [0, 1, 2] (u := [[(a, .inr (0, [.int (m + 1), .ref q1, .int (nI 16)]))], [(q1, .inl (G.2.1 8, 22, .inr (.inr (.inr (.inr (va_up (va_cpy (rfN 15 e) (fun _ => none) 0 0 15) 15 (some x)))))))], w]) (by decide) rfl (by decide) (by decide) dJx4a65c_add_9ea2d_24 (⟨_, rfl, rfl⟩)
set_option maxHeartbeats 4000000 in
set_option maxRecDepth 100000 in
/-- jdk/internal/util/ArraysSupport.newLength -/
theorem c_AL_len22 (l : Launch) (G : VG) : Mi l G yJ8_newLength_cabcc cJ8_newLength_cabcc 4 .int 1 14 0 0 [.int 22, .int 1, .int 11] [] (fun r u => r = 33 ∧ u = []) := by
  refine Mi_of (by decide) (Nat.le_of_ble_eq_true rfl) (fun pP eE sS mM aA bB tT cC AA QQ hC hr hnm hQ => ?_)
  refine V_iload_n hC dJ8_newLength_cabcc_0 0 rfl ?_
  refine V_iload_n hC dJ8_newLength_cabcc_1 1 rfl ?_
  refine V_iload_n hC dJ8_newLength_cabcc_2 2 rfl ?_
  refine V_mmax hC q1217 q694 q65 q695 (by decide) (Nat.le_of_ble_eq_true rfl) (by decide) (by decide) dJ8_newLength_cabcc_3 ?_
  refine V_eqi (y := 11) (by decide) ?_
  refine V_iadd hC dJ8_newLength_cabcc_6 ?_
  refine V_eqi (y := 33) (by decide) ?_
  refine V_istore_n hC dJ8_newLength_cabcc_7 (L' := [(3, .int 33), (0, .int 22), (1, .int 1), (2, .int 11)]) (by decide) rfl ?_
  refine V_iconst hC dJ8_newLength_cabcc_8 (v := 0) (by decide) ?_
  refine V_iload_n hC dJ8_newLength_cabcc_9 0 rfl ?_
  refine V_icmp_geF hC dJ8_newLength_cabcc_10 (tgt := 21) (by decide) (by decide) ?_
  refine V_iload_n hC dJ8_newLength_cabcc_13 0 rfl ?_
  refine V_ldc hC dJ8_newLength_cabcc_14 q1218 ?_
  refine V_icmp_gtF hC dJ8_newLength_cabcc_16 (tgt := 21) (by decide) (by decide) ?_
  refine V_iload_n hC dJ8_newLength_cabcc_19 0 rfl ?_
  exact V_iret hC hQ hr [] (u := []) (by decide) rfl (by decide) (by decide) dJ8_newLength_cabcc_20 (⟨rfl, rfl⟩)
set_option maxHeartbeats 4000000 in
set_option maxRecDepth 100000 in
/-- java/util/Arrays.copyOf -/
theorem c_AL_copy22c (l : Launch) (G : VG) (b : Nat) (e : Nat → Nat) (w : va_W) (hel : ∀ i, i < 22 → ∃ fs, (e i, .inr (10, fs)) ∈ w) : Mr l G yJ7_copyOf_6403c cJ7_copyOf_6403c 4 (.array (.object "java/lang/Object")) 1 30 1 33 [.ref b, .int 33, .ref (G.2.2 5)] [[(b, .inl (G.2.1 8, 22, .inr (.inr (.inr (.inr (rfN 22 e))))))], w] (fun r v => ∃ q : Nat, q = r ∧ v = [[(b, .inl (G.2.1 8, 22, .inr (.inr (.inr (.inr (rfN 22 e))))))], w, [(q, .inl (G.2.1 8, 33, .inr (.inr (.inr (.inr (va_cpy (rfN 22 e) (fun _ => none) 0 0 22))))))]]) := by
  refine Mr_of (by decide) (Nat.le_of_ble_eq_true rfl) (fun pP eE sS mM aA bB tT cC AA QQ hC hr hnm hQ => ?_)
  refine V_aload_n hC dJ7_copyOf_6403c_0 2 rfl ?_
  refine V_ldcM hC dJ7_copyOf_6403c_1 q1248 ?_
  refine V_acmp_neF hC dJ7_copyOf_6403c_3 (tgt := 13) (by decide) ?_
  refine V_iload_n hC dJ7_copyOf_6403c_6 1 rfl ?_
  refine V_newq hC 8 rfl q1250 (by decide) (N := 33) (by decide) (by decide) (by decide) (by decide) (by decide) dJ7_copyOf_6403c_7 (fun q1 => ?_)
  refine V_goto hC dJ7_copyOf_6403c_10 (tgt := 24) (by decide) ?_
  refine V_astore_n hC dJ7_copyOf_6403c_24 (L' := [(3, .ref q1), (0, .ref b), (1, .int 33), (2, .ref (G.2.2 5))]) (by decide) rfl ?_
  refine V_aload_n hC dJ7_copyOf_6403c_25 1 rfl ?_
  refine V_iconst hC dJ7_copyOf_6403c_26 (v := 0) (by decide) ?_
  refine V_aload_n hC dJ7_copyOf_6403c_27 0 rfl ?_
  refine V_iconst hC dJ7_copyOf_6403c_28 (v := 0) (by decide) ?_
  refine V_aload_n hC dJ7_copyOf_6403c_29 1 rfl ?_
  refine V_alen hC dJ7_copyOf_6403c_30 8 rfl (mem_at 0 0 rfl rfl) (v := 22) (rfl) ?_
  refine V_iload_n hC dJ7_copyOf_6403c_31 2 rfl ?_
  refine V_mmin hC q1251 q629 q65 q630 (by decide) (Nat.le_of_ble_eq_true rfl) (by decide) (by decide) dJ7_copyOf_6403c_32 ?_
  refine V_eqi (y := 22) (by decide) ?_
  refine V_copyq hC q1252 q1147 q1146 q63 soft_cs (mem_at 0 0 rfl rfl) 2 0 rfl rfl 0 0 22 (by rfl) (by rfl) (by rfl) (by first | decide | omega) (by first | decide | omega) (by first | decide | omega) (by first | decide | omega) (fun i hi y hy => by rw [Nat.zero_add] at hy; rw [rfN_at hi] at hy; obtain rfl := Option.some.inj hy; obtain ⟨fs, hf⟩ := hel i hi; exact ⟨fs, mem_pc 1 rfl hf⟩) (by decide) (by decide) (ps' := [[(b, .inl (G.2.1 8, 22, .inr (.inr (.inr (.inr (rfN 22 e))))))], w, [(q1, .inl (G.2.1 8, 33, .inr (.inr (.inr (.inr (va_cpy (rfN 22 e) (fun _ => none) 0 0 22))))))]]) rfl dJ7_copyOf_6403c_35 ?_
  refine V_aload_n hC dJ7_copyOf_6403c_38 0 rfl ?_
  exact V_aret hC hQ hr (Or.inr ⟨_, rfl⟩) [0, 1, 2] (u := [[(b, .inl (G.2.1 8, 22, .inr (.inr (.inr (.inr (rfN 22 e))))))], w, [(q1, .inl (G.2.1 8, 33, .inr (.inr (.inr (.inr (va_cpy (rfN 22 e) (fun _ => none) 0 0 22))))))]]) (by decide) rfl (by decide) (by decide) dJ7_copyOf_6403c_39 (⟨_, rfl, rfl⟩)
set_option maxHeartbeats 4000000 in
set_option maxRecDepth 100000 in
/-- java/util/Arrays.copyOf -/
theorem c_AL_copy22 (l : Launch) (G : VG) (b : Nat) (e : Nat → Nat) (w : va_W) (hel : ∀ i, i < 22 → ∃ fs, (e i, .inr (10, fs)) ∈ w) : Mr l G yJ7_copyOf_1904c cJ7_copyOf_1904c 2 (.array (.object "java/lang/Object")) 2 53 1 33 [.ref b, .int 33] [[(b, .inl (G.2.1 8, 22, .inr (.inr (.inr (.inr (rfN 22 e))))))], w] (fun r v => ∃ q : Nat, q = r ∧ v = [[(b, .inl (G.2.1 8, 22, .inr (.inr (.inr (.inr (rfN 22 e))))))], w, [(q, .inl (G.2.1 8, 33, .inr (.inr (.inr (.inr (va_cpy (rfN 22 e) (fun _ => none) 0 0 22))))))]]) := by
  refine Mr_of (by decide) (Nat.le_of_ble_eq_true rfl) (fun pP eE sS mM aA bB tT cC AA QQ hC hr hnm hQ => ?_)
  refine V_aload_n hC dJ7_copyOf_1904c_0 0 rfl ?_
  refine V_iload_n hC dJ7_copyOf_1904c_1 1 rfl ?_
  refine V_aload_n hC dJ7_copyOf_1904c_2 0 rfl ?_
  refine V_getC hC dJ7_copyOf_1904c_3 q1225 soft_gc q1541 q1226 q1244 (mem_at 0 0 rfl rfl) (by decide) (Nat.le_of_ble_eq_true rfl) ?_
  refine V_callr hC (V_runS hC (rest := []) [.ref b, .int 33, .ref (G.2.2 5)] (Mr_sz (c_AL_copy22c l G b e w hel)) [0, 1] rfl (by decide) q1245 q1246 q67 q1247 ⟨by decide, by decide, rfl⟩ ⟨by decide, by decide⟩ rfl (Nat.le_of_ble_eq_true rfl) ⟨by decide, by decide⟩ dJ7_copyOf_1904c_6) (is := [0, 1]) rfl [] (rs := []) rfl (by decide) (by decide) ?_
  rintro _ _ ⟨q1, rfl, rfl⟩
  exact V_aret hC hQ hr (Or.inr ⟨_, rfl⟩) [0, 1, 2] (u := [[(b, .inl (G.2.1 8, 22, .inr (.inr (.inr (.inr (rfN 22 e))))))], w, [(q1, .inl (G.2.1 8, 33, .inr (.inr (.inr (.inr (va_cpy (rfN 22 e) (fun _ => none) 0 0 22))))))]]) (by decide) rfl (by decide) (by decide) dJ7_copyOf_1904c_9 (⟨_, rfl, rfl⟩)
set_option maxHeartbeats 4000000 in
set_option maxRecDepth 100000 in
/-- java/util/ArrayList.grow -/
theorem c_AL_grow22I (l : Launch) (G : VG) (a : Nat) (m : Int32) (b : Nat) (e : Nat → Nat) (w : va_W) (hel : ∀ i, i < 22 → ∃ fs, (e i, .inr (10, fs)) ∈ w) : Mr l G yJx4a65c_grow_92f84 cJx4a65c_grow_92f84 4 (.array (.object "java/lang/Object")) 3 74 1 33 [.ref a, .int 23] [[(a, .inr (0, [.int m, .ref b, .int (nI 22)]))], [(b, .inl (G.2.1 8, 22, .inr (.inr (.inr (.inr (rfN 22 e))))))], w] (fun r v => ∃ q : Nat, q = r ∧ v = [[(a, .inr (0, [.int m, .ref q, .int (nI 22)]))], [(q, .inl (G.2.1 8, 33, .inr (.inr (.inr (.inr (va_cpy (rfN 22 e) (fun _ => none) 0 0 22))))))], w]) := by
  refine Mr_of (by decide) (Nat.le_of_ble_eq_true rfl) (fun pP eE sS mM aA bB tT cC AA QQ hC hr hnm hQ => ?_)
  refine V_aload_n hC dJx4a65c_grow_92f84_0 0 rfl ?_
  refine V_get hC dJx4a65c_grow_92f84_1 inAJx4a65c (mem_at 0 0 rfl rfl) rfl 1 (by decide) q961 rfl (v := .ref b) rfl ?_
  refine V_alen hC dJx4a65c_grow_92f84_4 8 rfl (mem_at 1 0 rfl rfl) (v := 22) (rfl) ?_
  refine V_istore_n hC dJx4a65c_grow_92f84_5 (L' := [(2, .int 22), (0, .ref a), (1, .int 23)]) (by decide) rfl ?_
  refine V_iload_n hC dJx4a65c_grow_92f84_6 0 rfl ?_
  refine V_if_gtT hC dJx4a65c_grow_92f84_7 (tgt := 20) (by decide) (by decide) ?_
  refine V_iload_n hC dJx4a65c_grow_92f84_20 0 rfl ?_
  refine V_iload_n hC dJx4a65c_grow_92f84_21 2 rfl ?_
  refine V_iload_n hC dJx4a65c_grow_92f84_22 0 rfl ?_
  refine V_isub hC dJx4a65c_grow_92f84_23 ?_
  refine V_eqi (y := 1) (by decide) ?_
  refine V_iload_n hC dJx4a65c_grow_92f84_24 0 rfl ?_
  refine V_iconst hC dJx4a65c_grow_92f84_25 (v := 1) (by decide) ?_
  refine V_ishr hC dJx4a65c_grow_92f84_26 ?_
  refine V_eqi (y := 11) (by decide) ?_
  refine V_calli hC (V_runS hC (rest := []) [.int 22, .int 1, .int 11] (c_AL_len22 l G) [] rfl (by decide) q1214 q1215 q66 q1216 ⟨by decide, by decide, rfl⟩ ⟨by decide, by decide⟩ rfl (Nat.le_of_ble_eq_true rfl) ⟨by decide, by decide⟩ dJx4a65c_grow_92f84_27) (is := []) rfl [0, 1, 2] (rs := [[(a, .inr (0, [.int m, .ref b, .int (nI 22)]))], [(b, .inl (G.2.1 8, 22, .inr (.inr (.inr (.inr (rfN 22 e))))))], w]) rfl (by decide) (by decide) ?_
  rintro _ _ ⟨rfl, rfl⟩
  refine V_istore_n hC dJx4a65c_grow_92f84_30 (L' := [(3, .int 33), (2, .int 22), (0, .ref a), (1, .int 23)]) (by decide) rfl ?_
  refine V_aload_n hC dJx4a65c_grow_92f84_31 2 rfl ?_
  refine V_aload_n hC dJx4a65c_grow_92f84_32 2 rfl ?_
  refine V_get hC dJx4a65c_grow_92f84_33 inAJx4a65c (mem_at 0 0 rfl rfl) rfl 1 (by decide) q961 rfl (v := .ref b) rfl ?_
  refine V_iload_n hC dJx4a65c_grow_92f84_36 0 rfl ?_
  refine V_callr hC (V_runS hC (rest := [.ref a]) [.ref b, .int 33] (Mr_sz (c_AL_copy22 l G b e w hel)) [1, 2] rfl (by decide) q1222 q1223 q67 q1224 ⟨by decide, by decide, rfl⟩ ⟨by decide, by decide⟩ rfl (Nat.le_of_ble_eq_true rfl) ⟨by decide, by decide⟩ dJx4a65c_grow_92f84_37) (is := [1, 2]) rfl [0] (rs := [[(a, .inr (0, [.int m, .ref b, .int (nI 22)]))]]) rfl (by decide) (by decide) ?_
  rintro _ _ ⟨q1, rfl, rfl⟩
  refine V_dup_x1 hC dJx4a65c_grow_92f84_40 rfl rfl ?_
  refine V_put hC dJx4a65c_grow_92f84_41 inAJx4a65c tyJx4a65c tyJx4a65c_ok nmJx4a65c 3 0 rfl rfl rfl 1 (by decide) q961 rfl rfl (rfl) (rfl) (Nat.le_of_ble_eq_true rfl) (ps' := [[(b, .inl (G.2.1 8, 22, .inr (.inr (.inr (.inr (rfN 22 e))))))], w, [(q1, .inl (G.2.1 8, 33, .inr (.inr (.inr (.inr (va_cpy (rfN 22 e) (fun _ => none) 0 0 22))))))], [(a, .inr (0, [.int m, .ref q1, .int (nI 22)]))]]) rfl ?_
  exact V_aret hC hQ hr (Or.inr ⟨_, rfl⟩) [3, 2, 1] (u := [[(a, .inr (0, [.int m, .ref q1, .int (nI 22)]))], [(q1, .inl (G.2.1 8, 33, .inr (.inr (.inr (.inr (va_cpy (rfN 22 e) (fun _ => none) 0 0 22))))))], w]) (by decide) rfl (by decide) (by decide) dJx4a65c_grow_92f84_44 (⟨_, rfl, rfl⟩)
set_option maxHeartbeats 4000000 in
set_option maxRecDepth 100000 in
/-- java/util/ArrayList.grow -/
theorem c_AL_grow22 (l : Launch) (G : VG) (a : Nat) (m : Int32) (b : Nat) (e : Nat → Nat) (w : va_W) (hel : ∀ i, i < 22 → ∃ fs, (e i, .inr (10, fs)) ∈ w) : Mr l G yJx4a65c_grow_d5877 cJx4a65c_grow_d5877 1 (.array (.object "java/lang/Object")) 4 97 1 33 [.ref a] [[(a, .inr (0, [.int m, .ref b, .int (nI 22)]))], [(b, .inl (G.2.1 8, 22, .inr (.inr (.inr (.inr (rfN 22 e))))))], w] (fun r v => ∃ q : Nat, q = r ∧ v = [[(a, .inr (0, [.int m, .ref q, .int (nI 22)]))], [(q, .inl (G.2.1 8, 33, .inr (.inr (.inr (.inr (va_cpy (rfN 22 e) (fun _ => none) 0 0 22))))))], w]) := by
  refine Mr_of (by decide) (Nat.le_of_ble_eq_true rfl) (fun pP eE sS mM aA bB tT cC AA QQ hC hr hnm hQ => ?_)
  refine V_aload_n hC dJx4a65c_grow_d5877_0 0 rfl ?_
  refine V_aload_n hC dJx4a65c_grow_d5877_1 0 rfl ?_
  refine V_get hC dJx4a65c_grow_d5877_2 inAJx4a65c (mem_at 0 0 rfl rfl) rfl 2 (by decide) q962 rfl (v := .int (nI 22)) rfl ?_
  refine V_iconst hC dJx4a65c_grow_d5877_5 (v := 1) (by decide) ?_
  refine V_iadd hC dJx4a65c_grow_d5877_6 ?_
  refine V_eqi (y := 23) (by decide) ?_
  refine V_callr hC (V_runV hC (rest := []) [.int 23] (Mr_sz (c_AL_grow22I l G a m b e w hel)) [0, 1, 2] rfl (by decide) q1210 q1212 q27 q55 q1213 ⟨by decide, by decide, rfl⟩ ⟨by decide, by decide⟩ (ci := 0) rfl (mem_at 0 0 rfl rfl) rfl (Nat.le_of_ble_eq_true rfl) ⟨by decide, by decide⟩ dJx4a65c_grow_d5877_7) (is := [0, 1, 2]) rfl [] (rs := []) rfl (by decide) (by decide) ?_
  rintro _ _ ⟨q1, rfl, rfl⟩
  exact V_aret hC hQ hr (Or.inr ⟨_, rfl⟩) [0, 1, 2] (u := [[(a, .inr (0, [.int m, .ref q1, .int (nI 22)]))], [(q1, .inl (G.2.1 8, 33, .inr (.inr (.inr (.inr (va_cpy (rfN 22 e) (fun _ => none) 0 0 22))))))], w]) (by decide) rfl (by decide) (by decide) dJx4a65c_grow_d5877_10 (⟨_, rfl, rfl⟩)
set_option maxHeartbeats 4000000 in
set_option maxRecDepth 100000 in
/-- java/util/ArrayList.add -/
theorem c_AL_addq22 (l : Launch) (G : VG) (a : Nat) (m : Int32) (b : Nat) (e : Nat → Nat) (x : Nat) (w : va_W) (fs : List Value) (hel : ∀ i, i < 22 → ∃ fs, (e i, .inr (10, fs)) ∈ w) (hx : (x, .inr (10, fs)) ∈ w) : Mv l G yJx4a65c_add_72be8 cJx4a65c_add_72be8 4 5 117 1 33 [.ref a, .ref x, .ref b, .int (nI 22)] [[(a, .inr (0, [.int m, .ref b, .int (nI 22)]))], [(b, .inl (G.2.1 8, 22, .inr (.inr (.inr (.inr (rfN 22 e))))))], w] (fun v => ∃ q : Nat, v = [[(a, .inr (0, [.int m, .ref q, .int (nI 23)]))], [(q, .inl (G.2.1 8, 33, .inr (.inr (.inr (.inr (va_up (va_cpy (rfN 22 e) (fun _ => none) 0 0 22) 22 (some x)))))))], w]) := by
  refine Mv_of (by decide) (Nat.le_of_ble_eq_true rfl) (fun pP eE sS mM aA bB tT cC AA QQ hC hr hnm hQ => ?_)
  refine V_iload_n hC dJx4a65c_add_72be8_0 3 rfl ?_
  refine V_aload_n hC dJx4a65c_add_72be8_1 2 rfl ?_
  refine V_alen hC dJx4a65c_add_72be8_2 8 rfl (mem_at 1 0 rfl rfl) (v := 22) (rfl) ?_
  refine V_icmp_neF hC dJx4a65c_add_72be8_3 (tgt := 11) (by decide) (by decide) ?_
  refine V_aload_n hC dJx4a65c_add_72be8_6 0 rfl ?_
  refine V_callr hC (V_runV hC (rest := []) [] (Mr_sz (c_AL_grow22 l G a m b e w hel)) [0, 1, 2] rfl (by decide) q1206 q1208 q26 q55 q1209 ⟨by decide, by decide, rfl⟩ ⟨by decide, by decide⟩ (ci := 0) rfl (mem_at 0 0 rfl rfl) rfl (Nat.le_of_ble_eq_true rfl) ⟨by decide, by decide⟩ dJx4a65c_add_72be8_7) (is := [0, 1, 2]) rfl [] (rs := []) rfl (by decide) (by decide) ?_
  rintro _ _ ⟨q1, rfl, rfl⟩
  refine V_astore_n hC dJx4a65c_add_72be8_10 (L' := [(2, .ref q1), (0, .ref a), (1, .ref x), (3, .int (nI 22))]) (by decide) rfl ?_
  refine V_aload_n hC dJx4a65c_add_72be8_11 0 rfl ?_
  refine V_iload_n hC dJx4a65c_add_72be8_12 3 rfl ?_
  refine V_aload_n hC dJx4a65c_add_72be8_13 2 rfl ?_
  refine V_aastO hC dJx4a65c_add_72be8_14 1 8 0 10 rfl soft_cs rfl rfl rfl (mem_pc 2 rfl hx) (vin (by decide)) (z := 22) (by decide) (ps' := [[(a, .inr (0, [.int m, .ref q1, .int (nI 22)]))], [(q1, .inl (G.2.1 8, 33, .inr (.inr (.inr (.inr (va_up (va_cpy (rfN 22 e) (fun _ => none) 0 0 22) 22 (some x)))))))], w]) rfl ?_
  refine V_aload_n hC dJx4a65c_add_72be8_15 1 rfl ?_
  refine V_iload_n hC dJx4a65c_add_72be8_16 3 rfl ?_
  refine V_iconst hC dJx4a65c_add_72be8_17 (v := 1) (by decide) ?_
  refine V_iadd hC dJx4a65c_add_72be8_18 ?_
  refine V_eqi (y := nI 23) (by decide) ?_
  refine V_put hC dJx4a65c_add_72be8_19 inAJx4a65c tyJx4a65c tyJx4a65c_ok nmJx4a65c 0 0 rfl rfl rfl 2 (by decide) q962 rfl rfl (rfl) (rfl) (Nat.le_of_ble_eq_true rfl) (ps' := [[(a, .inr (0, [.int m, .ref q1, .int (nI 23)]))], [(q1, .inl (G.2.1 8, 33, .inr (.inr (.inr (.inr (va_up (va_cpy (rfN 22 e) (fun _ => none) 0 0 22) 22 (some x)))))))], w]) rfl ?_
  exact V_vret hC hQ hr [0, 1, 2] (u := [[(a, .inr (0, [.int m, .ref q1, .int (nI 23)]))], [(q1, .inl (G.2.1 8, 33, .inr (.inr (.inr (.inr (va_up (va_cpy (rfN 22 e) (fun _ => none) 0 0 22) 22 (some x)))))))], w]) (by decide) rfl (by decide) (by decide) dJx4a65c_add_72be8_22 (⟨_, rfl⟩)
set_option maxHeartbeats 4000000 in
set_option maxRecDepth 100000 in
/-- java/util/ArrayList.add -/
theorem c_AL_addQ22 (l : Launch) (G : VG) (a : Nat) (m : Int32) (b : Nat) (e : Nat → Nat) (x : Nat) (w : va_W) (fs : List Value) (hel : ∀ i, i < 22 → ∃ fs, (e i, .inr (10, fs)) ∈ w) (hx : (x, .inr (10, fs)) ∈ w) : Mi l G yJx4a65c_add_9ea2d cJx4a65c_add_9ea2d 2 .boolean 6 200 1 33 [.ref a, .ref x] [[(a, .inr (0, [.int m, .ref b, .int (nI 22)]))], [(b, .inl (G.2.1 8, 22, .inr (.inr (.inr (.inr (rfN 22 e))))))], w] (fun r v => ∃ q : Nat, r = 1 ∧ v = [[(a, .inr (0, [.int (m + 1), .ref q, .int (nI 23)]))], [(q, .inl (G.2.1 8, 33, .inr (.inr (.inr (.inr (va_up (va_cpy (rfN 22 e) (fun _ => none) 0 0 22) 22 (some x)))))))], w]) := by
  refine Mi_of (by decide) (Nat.le_of_ble_eq_true rfl) (fun pP eE sS mM aA bB tT cC AA QQ hC hr hnm hQ => ?_)
  refine V_aload_n hC dJx4a65c_add_9ea2d_0 0 rfl ?_
  refine V_dup hC dJx4a65c_add_9ea2d_1 rfl ?_
  refine V_getS hC dJx4a65c_add_9ea2d_2 inAJx4a65c (mem_at 0 0 rfl rfl) rfl 0 (by decide) q964 q965 (v := .int m) rfl ?_
  refine V_iconst hC dJx4a65c_add_9ea2d_5 (v := 1) (by decide) ?_
  refine V_iadd hC dJx4a65c_add_9ea2d_6 ?_
  refine V_putS hC dJx4a65c_add_9ea2d_7 inAJx4a65c tyJx4a65c tyJx4a65c_ok nmJx4a65c 0 0 rfl rfl rfl 0 (by decide) q964 q965 rfl (rfl) (rfl) (Nat.le_of_ble_eq_true rfl) (ps' := [[(a, .inr (0, [.int (m + 1), .ref b, .int (nI 22)]))], [(b, .inl (G.2.1 8, 22, .inr (.inr (.inr (.inr (rfN 22 e))))))], w]) rfl ?_
  refine V_aload_n hC dJx4a65c_add_9ea2d_10 0 rfl ?_
  refine V_aload_n hC dJx4a65c_add_9ea2d_11 1 rfl ?_
  refine V_aload_n hC dJx4a65c_add_9ea2d_12 0 rfl ?_
  refine V_get hC dJx4a65c_add_9ea2d_13 inAJx4a65c (mem_at 0 0 rfl rfl) rfl 1 (by decide) q961 rfl (v := .ref b) rfl ?_
  refine V_aload_n hC dJx4a65c_add_9ea2d_16 0 rfl ?_
  refine V_get hC dJx4a65c_add_9ea2d_17 inAJx4a65c (mem_at 0 0 rfl rfl) rfl 2 (by decide) q962 rfl (v := .int (nI 22)) rfl ?_
  refine V_callv hC (V_runV hC (rest := []) [.ref x, .ref b, .int (nI 22)] (c_AL_addq22 l G a (m + 1) b e x w fs hel hx) [0, 1, 2] rfl (by decide) q1202 q1204 q25 q55 q1205 ⟨by decide, by decide, rfl⟩ ⟨by decide, by decide⟩ (ci := 0) rfl (mem_at 0 0 rfl rfl) rfl (Nat.le_of_ble_eq_true rfl) ⟨by decide, by decide⟩ dJx4a65c_add_9ea2d_20) (is := [0, 1, 2]) rfl [] (rs := []) rfl (by decide) (by decide) ?_
  rintro _ ⟨q1, rfl⟩
  refine V_iconst hC dJx4a65c_add_9ea2d_23 (v := 1) (by decide) ?_
  exact V_zret hC hQ hr (by decide) [0, 1, 2] (u := [[(a, .inr (0, [.int (m + 1), .ref q1, .int (nI 23)]))], [(q1, .inl (G.2.1 8, 33, .inr (.inr (.inr (.inr (va_up (va_cpy (rfN 22 e) (fun _ => none) 0 0 22) 22 (some x)))))))], w]) (by decide) rfl (by decide) (by decide) dJx4a65c_add_9ea2d_24 (⟨_, rfl, rfl⟩)
set_option maxHeartbeats 4000000 in
set_option maxRecDepth 100000 in
/-- java/util/ArrayList.fastRemove -/
theorem c_Jx4a65c_fastRemove_b59b0 (l : Launch) (G : VG) (a : Nat) (m : Int32) (b c : Nat) (N : Nat) (e : Nat → Nat) (w : va_W) (hc : c < N) (hN : N < 2 ^ 31) (hel : ∀ i, i < c + 1 → ∃ fs, (e i, .inr (10, fs)) ∈ w) : Mv l G yJx4a65c_fastRemove_b59b0 cJx4a65c_fastRemove_b59b0 4 1 30 0 0 [.ref a, .ref b, .int 0] [[(a, .inr (0, [.int m, .ref b, .int (nI (c + 1))]))], [(b, .inl (G.2.1 8, N, .inr (.inr (.inr (.inr (rfN (c + 1) e))))))], w] (fun v => v = [[(a, .inr (0, [.int (m + 1), .ref b, .int (nI c)]))], [(b, .inl (G.2.1 8, N, .inr (.inr (.inr (.inr (rfN c (fun i => e (i + 1))))))))], w]) := by
  refine Mv_of (by decide) (Nat.le_of_ble_eq_true rfl) (fun pP eE sS mM aA bB tT cC AA QQ hC hr hnm hQ => ?_)
  refine V_aload_n hC dJx4a65c_fastRemove_b59b0_0 0 rfl ?_
  refine V_dup hC dJx4a65c_fastRemove_b59b0_1 rfl ?_
  refine V_getS hC dJx4a65c_fastRemove_b59b0_2 inAJx4a65c (mem_at 0 0 rfl rfl) rfl 0 (by decide) q964 q965 (v := .int m) rfl ?_
  refine V_iconst hC dJx4a65c_fastRemove_b59b0_5 (v := 1) (by decide) ?_
  refine V_iadd hC dJx4a65c_fastRemove_b59b0_6 ?_
  refine V_putS hC dJx4a65c_fastRemove_b59b0_7 inAJx4a65c tyJx4a65c tyJx4a65c_ok nmJx4a65c 0 0 rfl rfl rfl 0 (by decide) q964 q965 rfl (rfl) (rfl) (Nat.le_of_ble_eq_true rfl) (ps' := [[(a, .inr (0, [.int (m + 1), .ref b, .int (nI (c + 1))]))], [(b, .inl (G.2.1 8, N, .inr (.inr (.inr (.inr (rfN (c + 1) e))))))], w]) rfl ?_
  refine V_aload_n hC dJx4a65c_fastRemove_b59b0_10 0 rfl ?_
  refine V_get hC dJx4a65c_fastRemove_b59b0_11 inAJx4a65c (mem_at 0 0 rfl rfl) rfl 2 (by decide) q962 rfl (v := .int (nI (c + 1))) rfl ?_
  refine V_iconst hC dJx4a65c_fastRemove_b59b0_14 (v := 1) (by decide) ?_
  refine V_isub hC dJx4a65c_fastRemove_b59b0_15 ?_
  refine V_eqi (y := nI c) (nI_pred c) ?_
  refine V_dup hC dJx4a65c_fastRemove_b59b0_16 rfl ?_
  refine V_istore_n hC dJx4a65c_fastRemove_b59b0_17 (L' := [(3, .int (nI c)), (0, .ref a), (1, .ref b), (2, .int 0)]) (by decide) rfl ?_
  refine V_iload_n hC dJx4a65c_fastRemove_b59b0_18 3 rfl ?_
  refine V_icmp_le hC dJx4a65c_fastRemove_b59b0_19 (tgt := 34) (by decide) (fun h1 => ?_) (fun h1 => ?_)
  · have hz : c = 0 := by have := nle (b := 0) h1; omega
    refine V_aload_n hC dJx4a65c_fastRemove_b59b0_34 2 rfl ?_
    refine V_aload_n hC dJx4a65c_fastRemove_b59b0_35 1 rfl ?_
    refine V_iload_n hC dJx4a65c_fastRemove_b59b0_36 0 rfl ?_
    refine V_dup_x1 hC dJx4a65c_fastRemove_b59b0_37 rfl rfl ?_
    refine V_put hC dJx4a65c_fastRemove_b59b0_38 inAJx4a65c tyJx4a65c tyJx4a65c_ok nmJx4a65c 0 0 rfl rfl rfl 2 (by decide) q962 rfl rfl (rfl) (rfl) (Nat.le_of_ble_eq_true rfl) (ps' := [[(a, .inr (0, [.int (m + 1), .ref b, .int (nI c)]))], [(b, .inl (G.2.1 8, N, .inr (.inr (.inr (.inr (rfN (c + 1) e))))))], w]) rfl ?_
    refine V_null hC dJx4a65c_fastRemove_b59b0_41 ?_
    refine V_aastN hC dJx4a65c_fastRemove_b59b0_42 1 8 0 rfl rfl rfl (vp_in_nI (by omega) (by omega)) (z := c) (nI_clamp (by omega)) (ps' := [[(a, .inr (0, [.int (m + 1), .ref b, .int (nI c)]))], [(b, .inl (G.2.1 8, N, .inr (.inr (.inr (.inr (va_up (rfN (c + 1) e) c none))))))], w]) rfl ?_
    exact V_vret hC hQ hr [0, 1, 2] (u := [[(a, .inr (0, [.int (m + 1), .ref b, .int (nI c)]))], [(b, .inl (G.2.1 8, N, .inr (.inr (.inr (.inr (va_up (rfN (c + 1) e) c none))))))], w]) (by decide) rfl (by decide) (by decide) dJx4a65c_fastRemove_b59b0_43 (by first | (rw [← rfN_rem]; done) | (subst hz; rw [← rfN_rem0]))
  · have hz : 0 < c := nnle (b := 0) h1
    refine V_aload_n hC dJx4a65c_fastRemove_b59b0_22 2 rfl ?_
    refine V_iload_n hC dJx4a65c_fastRemove_b59b0_23 3 rfl ?_
    refine V_iconst hC dJx4a65c_fastRemove_b59b0_24 (v := 1) (by decide) ?_
    refine V_iadd hC dJx4a65c_fastRemove_b59b0_25 ?_
    refine V_eqi (y := 1) (by decide) ?_
    refine V_aload_n hC dJx4a65c_fastRemove_b59b0_26 2 rfl ?_
    refine V_iload_n hC dJx4a65c_fastRemove_b59b0_27 3 rfl ?_
    refine V_iload_n hC dJx4a65c_fastRemove_b59b0_28 0 rfl ?_
    refine V_iload_n hC dJx4a65c_fastRemove_b59b0_29 3 rfl ?_
    refine V_isub hC dJx4a65c_fastRemove_b59b0_30 ?_
    refine V_eqi (y := nI c) (sub0 _) ?_
    refine V_copyq hC q1333 q1147 q1146 q63 soft_cs (mem_at 1 0 rfl rfl) 1 0 rfl rfl 1 0 c (by rfl) (by rfl) (by rfl) (by first | decide | omega) (by first | decide | omega) (by first | decide | omega) (by first | decide | omega) (fun i hi y hy => by rw [rfN_at (by omega)] at hy; obtain rfl := Option.some.inj hy; obtain ⟨fs, hf⟩ := hel (1 + i) (by omega); exact ⟨fs, mem_pc 2 rfl hf⟩) (by decide) (by decide) (ps' := [[(a, .inr (0, [.int (m + 1), .ref b, .int (nI (c + 1))]))], [(b, .inl (G.2.1 8, N, .inr (.inr (.inr (.inr (va_cpy (rfN (c + 1) e) (rfN (c + 1) e) 1 0 c))))))], w]) rfl dJx4a65c_fastRemove_b59b0_31 ?_
    refine V_aload_n hC dJx4a65c_fastRemove_b59b0_34 2 rfl ?_
    refine V_aload_n hC dJx4a65c_fastRemove_b59b0_35 1 rfl ?_
    refine V_iload_n hC dJx4a65c_fastRemove_b59b0_36 0 rfl ?_
    refine V_dup_x1 hC dJx4a65c_fastRemove_b59b0_37 rfl rfl ?_
    refine V_put hC dJx4a65c_fastRemove_b59b0_38 inAJx4a65c tyJx4a65c tyJx4a65c_ok nmJx4a65c 0 0 rfl rfl rfl 2 (by decide) q962 rfl rfl (rfl) (rfl) (Nat.le_of_ble_eq_true rfl) (ps' := [[(a, .inr (0, [.int (m + 1), .ref b, .int (nI c)]))], [(b, .inl (G.2.1 8, N, .inr (.inr (.inr (.inr (va_cpy (rfN (c + 1) e) (rfN (c + 1) e) 1 0 c))))))], w]) rfl ?_
    refine V_null hC dJx4a65c_fastRemove_b59b0_41 ?_
    refine V_aastN hC dJx4a65c_fastRemove_b59b0_42 1 8 0 rfl rfl rfl (vp_in_nI (by omega) (by omega)) (z := c) (nI_clamp (by omega)) (ps' := [[(a, .inr (0, [.int (m + 1), .ref b, .int (nI c)]))], [(b, .inl (G.2.1 8, N, .inr (.inr (.inr (.inr (va_up (va_cpy (rfN (c + 1) e) (rfN (c + 1) e) 1 0 c) c none))))))], w]) rfl ?_
    exact V_vret hC hQ hr [0, 1, 2] (u := [[(a, .inr (0, [.int (m + 1), .ref b, .int (nI c)]))], [(b, .inl (G.2.1 8, N, .inr (.inr (.inr (.inr (va_up (va_cpy (rfN (c + 1) e) (rfN (c + 1) e) 1 0 c) c none))))))], w]) (by decide) rfl (by decide) (by decide) dJx4a65c_fastRemove_b59b0_43 (by first | (rw [← rfN_rem]; done) | (subst hz; rw [← rfN_rem0]))
set_option maxHeartbeats 4000000 in
set_option maxRecDepth 100000 in
/-- java/util/ArrayList.remove -/
theorem c_Jx4a65c_remove_915e3 (l : Launch) (G : VG) (a : Nat) (m : Int32) (b c : Nat) (N : Nat) (e : Nat → Nat) (w : va_W) (hc : c < N) (hN : N < 2 ^ 31) (hel : ∀ i, i < c + 1 → ∃ fs, (e i, .inr (10, fs)) ∈ w) : Mr l G yJx4a65c_remove_915e3 cJx4a65c_remove_915e3 4 (.object "java/lang/Object") 2 53 0 0 [.ref a, .int 0] [[(a, .inr (0, [.int m, .ref b, .int (nI (c + 1))]))], [(b, .inl (G.2.1 8, N, .inr (.inr (.inr (.inr (rfN (c + 1) e))))))], w] (fun r v => r = e 0 ∧ v = [[(a, .inr (0, [.int (m + 1), .ref b, .int (nI c)]))], [(b, .inl (G.2.1 8, N, .inr (.inr (.inr (.inr (rfN c (fun i => e (i + 1))))))))], w]) := by
  refine Mr_of (by decide) (Nat.le_of_ble_eq_true rfl) (fun pP eE sS mM aA bB tT cC AA QQ hC hr hnm hQ => ?_)
  refine V_iload_n hC dJx4a65c_remove_915e3_0 1 rfl ?_
  refine V_aload_n hC dJx4a65c_remove_915e3_1 0 rfl ?_
  refine V_get hC dJx4a65c_remove_915e3_2 inAJx4a65c (mem_at 0 0 rfl rfl) rfl 2 (by decide) q962 rfl (v := .int (nI (c + 1))) rfl ?_
  refine V_calli hC (V_runS hC (rest := []) [.int 0, .int (nI (c + 1))] (c_J15_checkIndex_7cf53 l G 0 (c + 1) (by omega) (by omega)) [] rfl (by decide) q1306 q1307 q68 q1308 ⟨by decide, by decide, rfl⟩ ⟨by decide, by decide⟩ rfl (Nat.le_of_ble_eq_true rfl) ⟨by decide, by decide⟩ dJx4a65c_remove_915e3_5) (is := []) rfl [0, 1, 2] (rs := [[(a, .inr (0, [.int m, .ref b, .int (nI (c + 1))]))], [(b, .inl (G.2.1 8, N, .inr (.inr (.inr (.inr (rfN (c + 1) e))))))], w]) rfl (by decide) (by decide) ?_
  rintro _ _ ⟨rfl, rfl⟩
  refine V_pop hC dJx4a65c_remove_915e3_8 rfl ?_
  refine V_aload_n hC dJx4a65c_remove_915e3_9 0 rfl ?_
  refine V_get hC dJx4a65c_remove_915e3_10 inAJx4a65c (mem_at 0 0 rfl rfl) rfl 1 (by decide) q961 rfl (v := .ref b) rfl ?_
  refine V_astore_n hC dJx4a65c_remove_915e3_13 (L' := [(2, .ref b), (0, .ref a), (1, .int 0)]) (by decide) rfl ?_
  refine V_aload_n hC dJx4a65c_remove_915e3_14 0 rfl ?_
  refine V_iload_n hC dJx4a65c_remove_915e3_15 2 rfl ?_
  refine V_aald hC dJx4a65c_remove_915e3_16 8 rfl (mem_at 1 0 rfl rfl) (by rw [← nI_0]; exact vp_in_nI (by omega) (by omega)) (x := 0) (by decide) (b := e 0) (rfN_at (by first | assumption | omega)) ?_
  refine V_astore_n hC dJx4a65c_remove_915e3_17 (L' := [(3, .ref (e 0)), (2, .ref b), (0, .ref a), (1, .int 0)]) (by decide) rfl ?_
  refine V_aload_n hC dJx4a65c_remove_915e3_18 2 rfl ?_
  refine V_aload_n hC dJx4a65c_remove_915e3_19 1 rfl ?_
  refine V_iload_n hC dJx4a65c_remove_915e3_20 3 rfl ?_
  refine V_callv hC (V_runV hC (rest := []) [.ref b, .int 0] (c_Jx4a65c_fastRemove_b59b0 l G a m b c N e w hc hN hel) [0, 1, 2] rfl (by decide) q1329 q1331 q28 q55 q1332 ⟨by decide, by decide, rfl⟩ ⟨by decide, by decide⟩ (ci := 0) rfl (mem_at 0 0 rfl rfl) rfl (Nat.le_of_ble_eq_true rfl) ⟨by decide, by decide⟩ dJx4a65c_remove_915e3_21) (is := [0, 1, 2]) rfl [] (rs := []) rfl (by decide) (by decide) ?_
  rintro _ rfl
  refine V_aload_n hC dJx4a65c_remove_915e3_24 0 rfl ?_
  exact V_aret hC hQ hr (Or.inl ⟨_, rfl⟩) [0, 1, 2] (u := [[(a, .inr (0, [.int (m + 1), .ref b, .int (nI c)]))], [(b, .inl (G.2.1 8, N, .inr (.inr (.inr (.inr (rfN c (fun i => e (i + 1))))))))], w]) (by decide) rfl (by decide) (by decide) dJx4a65c_remove_915e3_25 (⟨rfl, rfl⟩)
def alP (G : VG) (a b : Nat) (m : Int32) (N c : Nat) (e : Nat → Nat) : va_W := (a, .inr (0, [.int m, .ref (if N = 0 then G.2.2 4 else b), .int (nI c)])) :: (if N = 0 then [] else [(b, .inl (G.2.1 8, N, .inr (.inr (.inr (.inr (rfN c e))))))])
def alOk (N c : Nat) : Prop := c ≤ N ∧ (N = 0 ∨ N = 10 ∨ N = 15 ∨ N = 22 ∨ N = 33)
theorem alP_pos {G : VG} {a b : Nat} {m : Int32} {N c : Nat} {e : Nat → Nat} (h : ¬ N = 0) : alP G a b m N c e = [(a, .inr (0, [.int m, .ref b, .int (nI c)])), (b, .inl (G.2.1 8, N, .inr (.inr (.inr (.inr (rfN c e))))))] := by
  unfold alP
  rw [if_neg h, if_neg h]
theorem alP_0 {G : VG} {a b : Nat} {m : Int32} {e : Nat → Nat} : alP G a b m 0 0 e = [(a, .inr (0, [.int m, .ref (G.2.2 4), .int 0]))] := rfl
theorem alP_e {G : VG} {a b : Nat} {m : Int32} {N c : Nat} {e e' : Nat → Nat} (h : ∀ i, i < c → e i = e' i) : alP G a b m N c e = alP G a b m N c e' := by
  unfold alP
  rw [show rfN c e = rfN c e' from by
    funext i
    unfold rfN
    by_cases hi : i < c
    · rw [if_pos hi, if_pos hi, h i hi]
    · rw [if_neg hi, if_neg hi]]
set_option maxHeartbeats 4000000 in
/-- java/util/ArrayList.size -/
theorem c_al_size (l : Launch) (G : VG) (a b : Nat) (m : Int32) (N c : Nat) (e : Nat → Nat) : Mi l G yJx4a65c_size_8abf5 cJx4a65c_size_8abf5 1 .int 0 0 0 0 [.ref a] [alP G a b m N c e] (fun r u => r = nI c ∧ u = [alP G a b m N c e]) := by
  refine Mi_post (pre := [[(a, .inr (0, [.int m, .ref (if N = 0 then G.2.2 4 else b), .int (nI c)]))]] ++ [if N = 0 then [] else [(b, .inl (G.2.1 8, N, .inr (.inr (.inr (.inr (rfN c e))))))]]) rfl ?_ (Mi_frame _ (c_Jx4a65c_size_8abf5 l G a m _ c))
  rintro r u ⟨u0, ⟨rfl, rfl⟩, rfl⟩
  exact ⟨[alP G a b m N c e], rfl, rfl, rfl⟩
set_option maxHeartbeats 4000000 in
/-- java/util/ArrayList.isEmpty -/
theorem c_al_isEmpty (l : Launch) (G : VG) (a b : Nat) (m : Int32) (N c : Nat) (e : Nat → Nat) (hc : c < 2 ^ 31) : Mi l G yJx4a65c_isEmpty_aae02 cJx4a65c_isEmpty_aae02 1 .boolean 0 0 0 0 [.ref a] [alP G a b m N c e] (fun r u => r = (if c = 0 then 1 else 0) ∧ u = [alP G a b m N c e]) := by
  refine Mi_post (pre := [[(a, .inr (0, [.int m, .ref (if N = 0 then G.2.2 4 else b), .int (nI c)]))]] ++ [if N = 0 then [] else [(b, .inl (G.2.1 8, N, .inr (.inr (.inr (.inr (rfN c e))))))]]) rfl ?_ (Mi_frame _ (c_Jx4a65c_isEmpty_aae02 l G a m _ c hc))
  rintro r u ⟨u0, ⟨rfl, rfl⟩, rfl⟩
  exact ⟨[alP G a b m N c e], rfl, rfl, rfl⟩
theorem Mr_post {l : Launch} {G : VG} {y : MethodName} {cc : ByteArray} {nL : Nat} {ret : FieldType} {fr lo mc ms : Nat} {av : List Value} {pre pre' : List va_W} {post post' : Nat → List va_W → Prop} (hp : pre.flatten = pre'.flatten) (h : ∀ r u, post r u → ∃ u', u.flatten = u'.flatten ∧ post' r u') (hM : Mr l G y cc nL ret fr lo mc ms av pre post) : Mr l G y cc nL ret fr lo mc ms av pre' post' := by
  intro sz
  rw [wPre_flat hp, ← hp]
  refine met_post (fun a st o t q => ?_) (hM sz)
  obtain ⟨⟨u, r, h1, h2, h3, h3'⟩, h4⟩ := q
  obtain ⟨u', e1, e2⟩ := h u.1 u.2 h2
  exact ⟨⟨(u.1, u'), r, h1, e2, h3, wB_flat e1 h3'⟩, h4⟩
set_option maxHeartbeats 4000000 in
/-- java/util/ArrayList.get -/
theorem c_al_get (l : Launch) (G : VG) (a b : Nat) (m : Int32) (N c : Nat) (e : Nat → Nat) (i : Nat) (hi : i < c) (hN : c ≤ N) (hb : N < 2 ^ 31) : Mr l G yJx4a65c_get_915e3 cJx4a65c_get_915e3 2 (.object "java/lang/Object") 2 43 0 0 [.ref a, .int (nI i)] [alP G a b m N c e] (fun r u => r = e i ∧ u = [alP G a b m N c e]) := by
  have h0 : ¬ N = 0 := by omega
  refine Mr_post (by rw [alP_pos h0]; rfl) ?_ (c_Jx4a65c_get_915e3 l G a m b c N e i hi hN hb)
  rintro r u ⟨rfl, rfl⟩
  exact ⟨_, by rw [alP_pos h0]; rfl, rfl, rfl⟩
set_option maxHeartbeats 4000000 in
/-- java/util/ArrayList.add -/
theorem c_al_add (l : Launch) (G : VG) (a b : Nat) (m : Int32) (N c : Nat) (e : Nat → Nat) (x : Nat) (w : va_W) (fs : List Value) (hok : alOk N c) (hc33 : c < 33) (hel : ∀ i, i < c → ∃ fs, (e i, .inr (10, fs)) ∈ w) (hx : (x, .inr (10, fs)) ∈ w) : Mi l G yJx4a65c_add_9ea2d cJx4a65c_add_9ea2d 2 .boolean 6 200 1 33 [.ref a, .ref x] [alP G a b m N c e, w] (fun r v => ∃ b' N' : Nat, r = 1 ∧ alOk N' (c + 1) ∧ v = [alP G a b' (m + 1) N' (c + 1) (va_up e c x), w]) := by
  obtain ⟨hcN, rfl | rfl | rfl | rfl | rfl⟩ := hok
  · obtain rfl : c = 0 := by omega
    refine Mi_post rfl ?_ (c_AL_add0 l G a m x w fs hx)
    rintro r u ⟨q, rfl, rfl⟩
    refine ⟨_, ?_, q, 10, rfl, ⟨by omega, by omega⟩, rfl⟩
    rw [alP_pos (by decide), ← rfN_add, ← rfN_0]
    rfl
  · by_cases h10 : c < 10
    · refine Mi_post rfl ?_ (c_AL_add1 l G a m b c 10 e x w fs h10 (by decide) hx)
      rintro r u ⟨rfl, rfl⟩
      refine ⟨_, ?_, b, 10, rfl, ⟨by omega, by omega⟩, rfl⟩
      rw [alP_pos (by decide), ← rfN_add]
      rfl
    · obtain rfl : c = 10 := by omega
      refine Mi_post rfl ?_ (c_AL_addQ10 l G a m b e x w fs hel hx)
      rintro r u ⟨q, rfl, rfl⟩
      refine ⟨_, ?_, q, 15, rfl, ⟨by omega, by omega⟩, rfl⟩
      rw [alP_pos (by decide), ← rfN_add, rfN_cpy]
      rfl
  · by_cases h10 : c < 15
    · refine Mi_post rfl ?_ (c_AL_add1 l G a m b c 15 e x w fs h10 (by decide) hx)
      rintro r u ⟨rfl, rfl⟩
      refine ⟨_, ?_, b, 15, rfl, ⟨by omega, by omega⟩, rfl⟩
      rw [alP_pos (by decide), ← rfN_add]
      rfl
    · obtain rfl : c = 15 := by omega
      refine Mi_post rfl ?_ (c_AL_addQ15 l G a m b e x w fs hel hx)
      rintro r u ⟨q, rfl, rfl⟩
      refine ⟨_, ?_, q, 22, rfl, ⟨by omega, by omega⟩, rfl⟩
      rw [alP_pos (by decide), ← rfN_add, rfN_cpy]
      rfl
  · by_cases h10 : c < 22
    · refine Mi_post rfl ?_ (c_AL_add1 l G a m b c 22 e x w fs h10 (by decide) hx)
      rintro r u ⟨rfl, rfl⟩
      refine ⟨_, ?_, b, 22, rfl, ⟨by omega, by omega⟩, rfl⟩
      rw [alP_pos (by decide), ← rfN_add]
      rfl
    · obtain rfl : c = 22 := by omega
      refine Mi_post rfl ?_ (c_AL_addQ22 l G a m b e x w fs hel hx)
      rintro r u ⟨q, rfl, rfl⟩
      refine ⟨_, ?_, q, 33, rfl, ⟨by omega, by omega⟩, rfl⟩
      rw [alP_pos (by decide), ← rfN_add, rfN_cpy]
      rfl
  · refine Mi_post rfl ?_ (c_AL_add1 l G a m b c 33 e x w fs hc33 (by decide) hx)
    rintro r u ⟨rfl, rfl⟩
    refine ⟨_, ?_, b, 33, rfl, ⟨by omega, by omega⟩, rfl⟩
    rw [alP_pos (by decide), ← rfN_add]
    rfl
set_option maxHeartbeats 4000000 in
/-- java/util/ArrayList.remove -/
theorem c_al_remove (l : Launch) (G : VG) (a b : Nat) (m : Int32) (N c : Nat) (e : Nat → Nat) (w : va_W) (hc : c < N) (hN : N < 2 ^ 31) (hel : ∀ i, i < c + 1 → ∃ fs, (e i, .inr (10, fs)) ∈ w) : Mr l G yJx4a65c_remove_915e3 cJx4a65c_remove_915e3 4 (.object "java/lang/Object") 2 53 0 0 [.ref a, .int 0] [alP G a b m N (c + 1) e, w] (fun r v => r = e 0 ∧ v = [alP G a b (m + 1) N c (fun i => e (i + 1)), w]) := by
  have h0 : ¬ N = 0 := by omega
  refine Mr_post (by rw [alP_pos h0]; rfl) ?_ (c_Jx4a65c_remove_915e3 l G a m b c N e w hc hN hel)
  rintro r u ⟨rfl, rfl⟩
  exact ⟨_, by rw [alP_pos h0]; rfl, rfl, rfl⟩
