/-! words of fields -/
theorem inAX0 : ∀ w ∈ u_ws RX0 TX0 3, w ∈ lw_all := fun w h => List.mem_filter.mpr ⟨by
    have h2 : ∀ w ∈ u_ws RX0 TX0 3, w ∈ lw_tbl := by decide +kernel
    exact h2 w h, by
    have h2 : ∀ w ∈ u_ws RX0 TX0 3, goodWord w = true := by decide +kernel
    exact h2 w h⟩
theorem inAX1 : ∀ w ∈ u_ws RX1 TX1 8, w ∈ lw_all := fun w h => List.mem_filter.mpr ⟨by
    have h2 : ∀ w ∈ u_ws RX1 TX1 8, w ∈ lw_tbl := by decide +kernel
    exact h2 w h, by
    have h2 : ∀ w ∈ u_ws RX1 TX1 8, goodWord w = true := by decide +kernel
    exact h2 w h⟩
theorem inAX2 : ∀ w ∈ u_ws RX2 TX2 12, w ∈ lw_all := fun w h => List.mem_filter.mpr ⟨by
    have h2 : ∀ w ∈ u_ws RX2 TX2 12, w ∈ lw_tbl := by decide +kernel
    exact h2 w h, by
    have h2 : ∀ w ∈ u_ws RX2 TX2 12, goodWord w = true := by decide +kernel
    exact h2 w h⟩
theorem inAX3 : ∀ w ∈ u_ws RX3 TX3 7, w ∈ lw_all := fun w h => List.mem_filter.mpr ⟨by
    have h2 : ∀ w ∈ u_ws RX3 TX3 7, w ∈ lw_tbl := by decide +kernel
    exact h2 w h, by
    have h2 : ∀ w ∈ u_ws RX3 TX3 7, goodWord w = true := by decide +kernel
    exact h2 w h⟩
theorem inAX4 : ∀ w ∈ u_ws RX4 TX4 1, w ∈ lw_all := fun w h => List.mem_filter.mpr ⟨by
    have h2 : ∀ w ∈ u_ws RX4 TX4 1, w ∈ lw_tbl := by decide +kernel
    exact h2 w h, by
    have h2 : ∀ w ∈ u_ws RX4 TX4 1, goodWord w = true := by decide +kernel
    exact h2 w h⟩
theorem inAX5 : ∀ w ∈ u_ws RX5 TX5 4, w ∈ lw_all := fun w h => List.mem_filter.mpr ⟨by
    have h2 : ∀ w ∈ u_ws RX5 TX5 4, w ∈ lw_tbl := by decide +kernel
    exact h2 w h, by
    have h2 : ∀ w ∈ u_ws RX5 TX5 4, goodWord w = true := by decide +kernel
    exact h2 w h⟩
theorem inAX6 : ∀ w ∈ u_ws RX6 TX6 3, w ∈ lw_all := fun w h => List.mem_filter.mpr ⟨by
    have h2 : ∀ w ∈ u_ws RX6 TX6 3, w ∈ lw_tbl := by decide +kernel
    exact h2 w h, by
    have h2 : ∀ w ∈ u_ws RX6 TX6 3, goodWord w = true := by decide +kernel
    exact h2 w h⟩
theorem inAX7 : ∀ w ∈ u_ws RX7 TX7 3, w ∈ lw_all := fun w h => List.mem_filter.mpr ⟨by
    have h2 : ∀ w ∈ u_ws RX7 TX7 3, w ∈ lw_tbl := by decide +kernel
    exact h2 w h, by
    have h2 : ∀ w ∈ u_ws RX7 TX7 3, goodWord w = true := by decide +kernel
    exact h2 w h⟩
theorem inAX8 : ∀ w ∈ u_ws RX8 TX8 14, w ∈ lw_all := fun w h => List.mem_filter.mpr ⟨by
    have h2 : ∀ w ∈ u_ws RX8 TX8 14, w ∈ lw_tbl := by decide +kernel
    exact h2 w h, by
    have h2 : ∀ w ∈ u_ws RX8 TX8 14, goodWord w = true := by decide +kernel
    exact h2 w h⟩
theorem inAX9 : ∀ w ∈ u_ws RX9 TX9 6, w ∈ lw_all := fun w h => List.mem_filter.mpr ⟨by
    have h2 : ∀ w ∈ u_ws RX9 TX9 6, w ∈ lw_tbl := by decide +kernel
    exact h2 w h, by
    have h2 : ∀ w ∈ u_ws RX9 TX9 6, goodWord w = true := by decide +kernel
    exact h2 w h⟩
theorem lw_nest_soft : ∀ q ∈ lw_nest, Cond.methodLinkNest q.1 q.2.1 q.2.2.1 q.2.2.2 ∈ lw_soft := fun q h => List.mem_filter.mpr ⟨by
    have h2 : ∀ q ∈ lw_nest, Cond.methodLinkNest q.1 q.2.1 q.2.2.1 q.2.2.2 ∈ lw_tbl := by decide +kernel
    exact h2 q h, rfl⟩
theorem nest_mem {own : String} {ix : Nat} {y : MethodName} {host : String} (h : (own, ix, y, host) ∈ lw_nest) : Cond.methodLinkNest own ix y host ∈ lw_soft := lw_nest_soft _ h
