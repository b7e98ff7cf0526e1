/-! ===== the whole library is wanted (new T[n][m]): the outer array's cell ===== -/
theorem lw_wide0 (c : ClassId) (N h0 : Nat) : Jvm.Free.Multi.outerC c N h0 0 = arrV c N (fun _ => .null) := by
  rw [← arrV_new]
  rfl
