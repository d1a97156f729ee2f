set_option maxHeartbeats 1000000 in
theorem t_pairOf {xs : List Int} {d : Nat} {L : z_L} {M : z_M} {a b : Int} {P : Option z_V → z_L → z_M → Prop} (h : P (some (0, if a < b then z_w (z_w (a * 6) + b) else z_w (z_w (b * 6) + a))) L M) : wp xs d mX2_pairOf 0 [(0, a), (0, b)] [] L M P := by
  repeat (refine wp_st rfl ?_)
  trace_state
  sorry
set_option maxHeartbeats 1000000 in
theorem t_othersIn {xs : List Int} {d : Nat} {M : z_M} {f c : Int} {P : Option z_V → z_L → z_M → Prop} : wp xs d mX10_othersIn 0 [(2, 321), (0, f), (0, c), (3, 0), (3, 0)] [] z_LL M P := by
  repeat (refine wp_st rfl ?_)
  trace_state
  sorry
