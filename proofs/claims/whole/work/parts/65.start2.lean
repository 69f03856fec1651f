/-! THE START, once more: what the table's part needs of it -/
def lchk2 (q : Nat × qI × qR) : Bool := decide (q.2.1 111 20 = 0) && (List.range 42).all (fun i => decide (q.2.1 9 i = 0))
set_option maxRecDepth 1000000 in
set_option maxHeartbeats 4000000 in
theorem make_chk2 : (fL_make 300000).map lchk2 = some true := by decide +kernel
theorem make_ok2 {q : Nat × qI × qR} (h : fL_make 300000 = some q) : q.2.1 111 20 = 0 ∧ ∀ i, i < 42 → q.2.1 9 i = 0 := by
  have hc := make_chk2
  rw [h] at hc
  have hc : lchk2 q = true := Option.some.inj hc
  unfold lchk2 at hc
  simp only [Bool.and_eq_true, List.all_eq_true, List.mem_range, decide_eq_true_eq] at hc
  exact hc
