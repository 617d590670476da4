def ts_h00 : ts_H := (fun _ _ => 0, fun _ _ => 0, [], [])
/-- THE LAW, over the simple machine -/
theorem ts_law (X : ts_X) (hX : X.1 ≤ 3072) : ts_Ev X (ts_Cal X 400) 238 ts_h00.2.2.2 (fun r _ => r = some (.int 1)) 0 (ts_ent (ts_ml 238) [.ref 1000]) [] ts_h00 := by
  rw [l238]
  exact D_law0 X hX
