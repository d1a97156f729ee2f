/-! THE CALLS: acts -/
set_option maxRecDepth 20000 in
theorem gX1_apart_0 {xs : List Int} {d : Nat} {M : z_M} {P : Option z_V → z_L → z_M → Prop} {g : Int} {a1 : Int} {a2 : Int} (hg : z_gor M g)
    (b1 : ((M g 10) ≠ 0) → ¬ (M g 10) = 0)
    (l1 : ((M g 10) ≠ 0) → ((M g 10) ≠ 0) → ((M g 10) ≠ 0) → ((M g 10) ≠ 0) → P (some (0, (z_w ((z_abs (z_w ((z_div a1 (M g 10)) - (z_div a2 (M g 10))))) + (z_abs (z_w ((z_rem a1 (M g 10)) - (z_rem a2 (M g 10))))))))) z_LL M)
    (l2 : ((M g 10) ≠ 0) → ((M g 10) ≠ 0) → ((M g 10) ≠ 0) → (¬ ((M g 10) ≠ 0)) → P (some (0, (z_w ((z_abs (z_w ((z_div a1 (M g 10)) - (z_div a2 (M g 10))))) + (z_abs (z_w ((z_rem a1 (M g 10)) - 0))))))) z_LL M)
    (l3 : ((M g 10) ≠ 0) → ((M g 10) ≠ 0) → (¬ ((M g 10) ≠ 0)) → ((M g 10) ≠ 0) → P (some (0, (z_w ((z_abs (z_w ((z_div a1 (M g 10)) - (z_div a2 (M g 10))))) + (z_abs (z_w (0 - (z_rem a2 (M g 10))))))))) z_LL M)
    (l4 : ((M g 10) ≠ 0) → ((M g 10) ≠ 0) → (¬ ((M g 10) ≠ 0)) → (¬ ((M g 10) ≠ 0)) → P (some (0, (z_w ((z_abs (z_w ((z_div a1 (M g 10)) - (z_div a2 (M g 10))))) + (z_abs 0))))) z_LL M)
    (l5 : ((M g 10) ≠ 0) → (¬ ((M g 10) ≠ 0)) → ((M g 10) ≠ 0) → ((M g 10) ≠ 0) → P (some (0, (z_w ((z_abs (z_w ((z_div a1 (M g 10)) - 0))) + (z_abs (z_w ((z_rem a1 (M g 10)) - (z_rem a2 (M g 10))))))))) z_LL M)
    (l6 : ((M g 10) ≠ 0) → (¬ ((M g 10) ≠ 0)) → ((M g 10) ≠ 0) → (¬ ((M g 10) ≠ 0)) → P (some (0, (z_w ((z_abs (z_w ((z_div a1 (M g 10)) - 0))) + (z_abs (z_w ((z_rem a1 (M g 10)) - 0))))))) z_LL M)
    (l7 : ((M g 10) ≠ 0) → (¬ ((M g 10) ≠ 0)) → (¬ ((M g 10) ≠ 0)) → ((M g 10) ≠ 0) → P (some (0, (z_w ((z_abs (z_w ((z_div a1 (M g 10)) - 0))) + (z_abs (z_w (0 - (z_rem a2 (M g 10))))))))) z_LL M)
    (l8 : ((M g 10) ≠ 0) → (¬ ((M g 10) ≠ 0)) → (¬ ((M g 10) ≠ 0)) → (¬ ((M g 10) ≠ 0)) → P (some (0, (z_w ((z_abs (z_w ((z_div a1 (M g 10)) - 0))) + (z_abs 0))))) z_LL M)
    (b2 : (¬ ((M g 10) ≠ 0)) → ((M g 10) ≠ 0) → ¬ (M g 10) = 0)
    (l9 : (¬ ((M g 10) ≠ 0)) → ((M g 10) ≠ 0) → ((M g 10) ≠ 0) → ((M g 10) ≠ 0) → P (some (0, (z_w ((z_abs (z_w (0 - (z_div a2 (M g 10))))) + (z_abs (z_w ((z_rem a1 (M g 10)) - (z_rem a2 (M g 10))))))))) z_LL M)
    (l10 : (¬ ((M g 10) ≠ 0)) → ((M g 10) ≠ 0) → ((M g 10) ≠ 0) → (¬ ((M g 10) ≠ 0)) → P (some (0, (z_w ((z_abs (z_w (0 - (z_div a2 (M g 10))))) + (z_abs (z_w ((z_rem a1 (M g 10)) - 0))))))) z_LL M)
    (l11 : (¬ ((M g 10) ≠ 0)) → ((M g 10) ≠ 0) → (¬ ((M g 10) ≠ 0)) → ((M g 10) ≠ 0) → P (some (0, (z_w ((z_abs (z_w (0 - (z_div a2 (M g 10))))) + (z_abs (z_w (0 - (z_rem a2 (M g 10))))))))) z_LL M)
    (l12 : (¬ ((M g 10) ≠ 0)) → ((M g 10) ≠ 0) → (¬ ((M g 10) ≠ 0)) → (¬ ((M g 10) ≠ 0)) → P (some (0, (z_w ((z_abs (z_w (0 - (z_div a2 (M g 10))))) + (z_abs 0))))) z_LL M)
    (b3 : (¬ ((M g 10) ≠ 0)) → (¬ ((M g 10) ≠ 0)) → ((M g 10) ≠ 0) → ¬ (M g 10) = 0)
    (l13 : (¬ ((M g 10) ≠ 0)) → (¬ ((M g 10) ≠ 0)) → ((M g 10) ≠ 0) → ((M g 10) ≠ 0) → P (some (0, (z_w ((z_abs 0) + (z_abs (z_w ((z_rem a1 (M g 10)) - (z_rem a2 (M g 10))))))))) z_LL M)
    (l14 : (¬ ((M g 10) ≠ 0)) → (¬ ((M g 10) ≠ 0)) → ((M g 10) ≠ 0) → (¬ ((M g 10) ≠ 0)) → P (some (0, (z_w ((z_abs 0) + (z_abs (z_w ((z_rem a1 (M g 10)) - 0))))))) z_LL M)
    (b4 : (¬ ((M g 10) ≠ 0)) → (¬ ((M g 10) ≠ 0)) → (¬ ((M g 10) ≠ 0)) → ((M g 10) ≠ 0) → ¬ (M g 10) = 0)
    (l15 : (¬ ((M g 10) ≠ 0)) → (¬ ((M g 10) ≠ 0)) → (¬ ((M g 10) ≠ 0)) → ((M g 10) ≠ 0) → P (some (0, (z_w ((z_abs 0) + (z_abs (z_w (0 - (z_rem a2 (M g 10))))))))) z_LL M)
    (l16 : (¬ ((M g 10) ≠ 0)) → (¬ ((M g 10) ≠ 0)) → (¬ ((M g 10) ≠ 0)) → (¬ ((M g 10) ≠ 0)) → P (some (0, (z_w ((z_abs 0) + (z_abs 0))))) z_LL M) :
    wp xs (d + 1) mX1_apart 0 [(2, g), (0, a1), (0, a2)] [] z_LL M P := by
  refine wp_run 2 (pc' := 2) (ls' := [(2, g), (0, a1), (0, a2)]) (st' := [(0, a1), (2, g)]) rfl ?_
  refine wp_callv (pc' := 5) (as := [(2, g), (0, a1)]) (rest := []) (ls1 := [(2, g), (0, a1)]) rfl rfl rfl rfl (z_args_v rfl rfl rfl rfl (Nat.le_of_ble_eq_true rfl) rfl (by decide) (z_gl0 hg)) rfl ?_
  refine wp_run 1 (pc' := 1) (ls' := [(2, g), (0, a1)]) (st' := [(2, g)]) rfl ?_
  refine wp_gf (pc' := 4) (t := 0) (v := (M g 10)) rfl rfl (by decide) rfl (z_gl0 hg) rfl ?_
  refine wp_if1 rfl rfl rfl (fun (c1 : (M g 10) ≠ 0) => ?_) (fun (c1 : ¬ ((M g 10) ≠ 0)) => ?_)
  · refine wp_run 2 (pc' := 13) (ls' := [(2, g), (0, a1)]) (st' := [(2, g), (0, a1)]) rfl ?_
    refine wp_gf (pc' := 16) (t := 0) (v := (M g 10)) rfl rfl (by decide) rfl (z_gl0 hg) rfl ?_
    refine wp_div rfl rfl (b1 c1) ?_
    refine wp_ret rfl rfl ?_
    show wp xs _ mX1_apart 5 [(2, g), (0, a1), (0, a2)] [(0, (z_div a1 (M g 10)))] z_LL M _
    refine wp_run 2 (pc' := 7) (ls' := [(2, g), (0, a1), (0, a2)]) (st' := [(0, a2), (2, g), (0, (z_div a1 (M g 10)))]) rfl ?_
    refine wp_callv (pc' := 10) (as := [(2, g), (0, a2)]) (rest := [(0, (z_div a1 (M g 10)))]) (ls1 := [(2, g), (0, a2)]) rfl rfl rfl rfl (z_args_v rfl rfl rfl rfl (Nat.le_of_ble_eq_true rfl) rfl (by decide) (z_gl0 hg)) rfl ?_
    refine wp_run 1 (pc' := 1) (ls' := [(2, g), (0, a2)]) (st' := [(2, g)]) rfl ?_
    refine wp_gf (pc' := 4) (t := 0) (v := (M g 10)) rfl rfl (by decide) rfl (z_gl0 hg) rfl ?_
    refine wp_if1 rfl rfl rfl (fun (c2 : (M g 10) ≠ 0) => ?_) (fun (c2 : ¬ ((M g 10) ≠ 0)) => ?_)
    · refine wp_run 2 (pc' := 13) (ls' := [(2, g), (0, a2)]) (st' := [(2, g), (0, a2)]) rfl ?_
      refine wp_gf (pc' := 16) (t := 0) (v := (M g 10)) rfl rfl (by decide) rfl (z_gl0 hg) rfl ?_
      refine wp_div rfl rfl (b1 c1) ?_
      refine wp_ret rfl rfl ?_
      show wp xs _ mX1_apart 10 [(2, g), (0, a1), (0, a2)] [(0, (z_div a2 (M g 10))), (0, (z_div a1 (M g 10)))] z_LL M _
      refine wp_run 1 (pc' := 11) (ls' := [(2, g), (0, a1), (0, a2)]) (st' := [(0, (z_w ((z_div a1 (M g 10)) - (z_div a2 (M g 10)))))]) rfl ?_
      refine wp_abs (pc' := 14) rfl rfl (Nat.le_of_ble_eq_true rfl) ?_
      refine wp_run 2 (pc' := 16) (ls' := [(2, g), (0, a1), (0, a2)]) (st' := [(0, a1), (2, g), (0, (z_abs (z_w ((z_div a1 (M g 10)) - (z_div a2 (M g 10))))))]) rfl ?_
      refine wp_callv (pc' := 19) (as := [(2, g), (0, a1)]) (rest := [(0, (z_abs (z_w ((z_div a1 (M g 10)) - (z_div a2 (M g 10))))))]) (ls1 := [(2, g), (0, a1)]) rfl rfl rfl rfl (z_args_v rfl rfl rfl rfl (Nat.le_of_ble_eq_true rfl) rfl (by decide) (z_gl0 hg)) rfl ?_
      refine wp_run 1 (pc' := 1) (ls' := [(2, g), (0, a1)]) (st' := [(2, g)]) rfl ?_
      refine wp_gf (pc' := 4) (t := 0) (v := (M g 10)) rfl rfl (by decide) rfl (z_gl0 hg) rfl ?_
      refine wp_if1 rfl rfl rfl (fun (c3 : (M g 10) ≠ 0) => ?_) (fun (c3 : ¬ ((M g 10) ≠ 0)) => ?_)
      · refine wp_run 2 (pc' := 13) (ls' := [(2, g), (0, a1)]) (st' := [(2, g), (0, a1)]) rfl ?_
        refine wp_gf (pc' := 16) (t := 0) (v := (M g 10)) rfl rfl (by decide) rfl (z_gl0 hg) rfl ?_
        refine wp_rem rfl rfl (b1 c1) ?_
        refine wp_ret rfl rfl ?_
        show wp xs _ mX1_apart 19 [(2, g), (0, a1), (0, a2)] [(0, (z_rem a1 (M g 10))), (0, (z_abs (z_w ((z_div a1 (M g 10)) - (z_div a2 (M g 10))))))] z_LL M _
        refine wp_run 2 (pc' := 21) (ls' := [(2, g), (0, a1), (0, a2)]) (st' := [(0, a2), (2, g), (0, (z_rem a1 (M g 10))), (0, (z_abs (z_w ((z_div a1 (M g 10)) - (z_div a2 (M g 10))))))]) rfl ?_
        refine wp_callv (pc' := 24) (as := [(2, g), (0, a2)]) (rest := [(0, (z_rem a1 (M g 10))), (0, (z_abs (z_w ((z_div a1 (M g 10)) - (z_div a2 (M g 10))))))]) (ls1 := [(2, g), (0, a2)]) rfl rfl rfl rfl (z_args_v rfl rfl rfl rfl (Nat.le_of_ble_eq_true rfl) rfl (by decide) (z_gl0 hg)) rfl ?_
        refine wp_run 1 (pc' := 1) (ls' := [(2, g), (0, a2)]) (st' := [(2, g)]) rfl ?_
        refine wp_gf (pc' := 4) (t := 0) (v := (M g 10)) rfl rfl (by decide) rfl (z_gl0 hg) rfl ?_
        refine wp_if1 rfl rfl rfl (fun (c4 : (M g 10) ≠ 0) => ?_) (fun (c4 : ¬ ((M g 10) ≠ 0)) => ?_)
        · refine wp_run 2 (pc' := 13) (ls' := [(2, g), (0, a2)]) (st' := [(2, g), (0, a2)]) rfl ?_
          refine wp_gf (pc' := 16) (t := 0) (v := (M g 10)) rfl rfl (by decide) rfl (z_gl0 hg) rfl ?_
          refine wp_rem rfl rfl (b1 c1) ?_
          refine wp_ret rfl rfl ?_
          show wp xs _ mX1_apart 24 [(2, g), (0, a1), (0, a2)] [(0, (z_rem a2 (M g 10))), (0, (z_rem a1 (M g 10))), (0, (z_abs (z_w ((z_div a1 (M g 10)) - (z_div a2 (M g 10))))))] z_LL M _
          refine wp_run 1 (pc' := 25) (ls' := [(2, g), (0, a1), (0, a2)]) (st' := [(0, (z_w ((z_rem a1 (M g 10)) - (z_rem a2 (M g 10))))), (0, (z_abs (z_w ((z_div a1 (M g 10)) - (z_div a2 (M g 10))))))]) rfl ?_
          refine wp_abs (pc' := 28) rfl rfl (Nat.le_of_ble_eq_true rfl) ?_
          refine wp_run 1 (pc' := 29) (ls' := [(2, g), (0, a1), (0, a2)]) (st' := [(0, (z_w ((z_abs (z_w ((z_div a1 (M g 10)) - (z_div a2 (M g 10))))) + (z_abs (z_w ((z_rem a1 (M g 10)) - (z_rem a2 (M g 10))))))))]) rfl ?_
          exact wp_ret rfl rfl (l1 c1 c2 c3 c4)
        · refine wp_run 2 (pc' := 17) (ls' := [(2, g), (0, a2)]) (st' := [(0, 0)]) rfl ?_
          refine wp_ret rfl rfl ?_
          show wp xs _ mX1_apart 24 [(2, g), (0, a1), (0, a2)] [(0, 0), (0, (z_rem a1 (M g 10))), (0, (z_abs (z_w ((z_div a1 (M g 10)) - (z_div a2 (M g 10))))))] z_LL M _
          refine wp_run 1 (pc' := 25) (ls' := [(2, g), (0, a1), (0, a2)]) (st' := [(0, (z_w ((z_rem a1 (M g 10)) - 0))), (0, (z_abs (z_w ((z_div a1 (M g 10)) - (z_div a2 (M g 10))))))]) rfl ?_
          refine wp_abs (pc' := 28) rfl rfl (Nat.le_of_ble_eq_true rfl) ?_
          refine wp_run 1 (pc' := 29) (ls' := [(2, g), (0, a1), (0, a2)]) (st' := [(0, (z_w ((z_abs (z_w ((z_div a1 (M g 10)) - (z_div a2 (M g 10))))) + (z_abs (z_w ((z_rem a1 (M g 10)) - 0))))))]) rfl ?_
          exact wp_ret rfl rfl (l2 c1 c2 c3 c4)
      · refine wp_run 2 (pc' := 17) (ls' := [(2, g), (0, a1)]) (st' := [(0, 0)]) rfl ?_
        refine wp_ret rfl rfl ?_
        show wp xs _ mX1_apart 19 [(2, g), (0, a1), (0, a2)] [(0, 0), (0, (z_abs (z_w ((z_div a1 (M g 10)) - (z_div a2 (M g 10))))))] z_LL M _
        refine wp_run 2 (pc' := 21) (ls' := [(2, g), (0, a1), (0, a2)]) (st' := [(0, a2), (2, g), (0, 0), (0, (z_abs (z_w ((z_div a1 (M g 10)) - (z_div a2 (M g 10))))))]) rfl ?_
        refine wp_callv (pc' := 24) (as := [(2, g), (0, a2)]) (rest := [(0, 0), (0, (z_abs (z_w ((z_div a1 (M g 10)) - (z_div a2 (M g 10))))))]) (ls1 := [(2, g), (0, a2)]) rfl rfl rfl rfl (z_args_v rfl rfl rfl rfl (Nat.le_of_ble_eq_true rfl) rfl (by decide) (z_gl0 hg)) rfl ?_
        refine wp_run 1 (pc' := 1) (ls' := [(2, g), (0, a2)]) (st' := [(2, g)]) rfl ?_
        refine wp_gf (pc' := 4) (t := 0) (v := (M g 10)) rfl rfl (by decide) rfl (z_gl0 hg) rfl ?_
        refine wp_if1 rfl rfl rfl (fun (c5 : (M g 10) ≠ 0) => ?_) (fun (c5 : ¬ ((M g 10) ≠ 0)) => ?_)
        · refine wp_run 2 (pc' := 13) (ls' := [(2, g), (0, a2)]) (st' := [(2, g), (0, a2)]) rfl ?_
          refine wp_gf (pc' := 16) (t := 0) (v := (M g 10)) rfl rfl (by decide) rfl (z_gl0 hg) rfl ?_
          refine wp_rem rfl rfl (b1 c1) ?_
          refine wp_ret rfl rfl ?_
          show wp xs _ mX1_apart 24 [(2, g), (0, a1), (0, a2)] [(0, (z_rem a2 (M g 10))), (0, 0), (0, (z_abs (z_w ((z_div a1 (M g 10)) - (z_div a2 (M g 10))))))] z_LL M _
          refine wp_run 1 (pc' := 25) (ls' := [(2, g), (0, a1), (0, a2)]) (st' := [(0, (z_w (0 - (z_rem a2 (M g 10))))), (0, (z_abs (z_w ((z_div a1 (M g 10)) - (z_div a2 (M g 10))))))]) rfl ?_
          refine wp_abs (pc' := 28) rfl rfl (Nat.le_of_ble_eq_true rfl) ?_
          refine wp_run 1 (pc' := 29) (ls' := [(2, g), (0, a1), (0, a2)]) (st' := [(0, (z_w ((z_abs (z_w ((z_div a1 (M g 10)) - (z_div a2 (M g 10))))) + (z_abs (z_w (0 - (z_rem a2 (M g 10))))))))]) rfl ?_
          exact wp_ret rfl rfl (l3 c1 c2 c3 c5)
        · refine wp_run 2 (pc' := 17) (ls' := [(2, g), (0, a2)]) (st' := [(0, 0)]) rfl ?_
          refine wp_ret rfl rfl ?_
          show wp xs _ mX1_apart 24 [(2, g), (0, a1), (0, a2)] [(0, 0), (0, 0), (0, (z_abs (z_w ((z_div a1 (M g 10)) - (z_div a2 (M g 10))))))] z_LL M _
          refine wp_run 1 (pc' := 25) (ls' := [(2, g), (0, a1), (0, a2)]) (st' := [(0, 0), (0, (z_abs (z_w ((z_div a1 (M g 10)) - (z_div a2 (M g 10))))))]) rfl ?_
          refine wp_abs (pc' := 28) rfl rfl (Nat.le_of_ble_eq_true rfl) ?_
          refine wp_run 1 (pc' := 29) (ls' := [(2, g), (0, a1), (0, a2)]) (st' := [(0, (z_w ((z_abs (z_w ((z_div a1 (M g 10)) - (z_div a2 (M g 10))))) + (z_abs 0))))]) rfl ?_
          exact wp_ret rfl rfl (l4 c1 c2 c3 c5)
    · refine wp_run 2 (pc' := 17) (ls' := [(2, g), (0, a2)]) (st' := [(0, 0)]) rfl ?_
      refine wp_ret rfl rfl ?_
      show wp xs _ mX1_apart 10 [(2, g), (0, a1), (0, a2)] [(0, 0), (0, (z_div a1 (M g 10)))] z_LL M _
      refine wp_run 1 (pc' := 11) (ls' := [(2, g), (0, a1), (0, a2)]) (st' := [(0, (z_w ((z_div a1 (M g 10)) - 0)))]) rfl ?_
      refine wp_abs (pc' := 14) rfl rfl (Nat.le_of_ble_eq_true rfl) ?_
      refine wp_run 2 (pc' := 16) (ls' := [(2, g), (0, a1), (0, a2)]) (st' := [(0, a1), (2, g), (0, (z_abs (z_w ((z_div a1 (M g 10)) - 0))))]) rfl ?_
      refine wp_callv (pc' := 19) (as := [(2, g), (0, a1)]) (rest := [(0, (z_abs (z_w ((z_div a1 (M g 10)) - 0))))]) (ls1 := [(2, g), (0, a1)]) rfl rfl rfl rfl (z_args_v rfl rfl rfl rfl (Nat.le_of_ble_eq_true rfl) rfl (by decide) (z_gl0 hg)) rfl ?_
      refine wp_run 1 (pc' := 1) (ls' := [(2, g), (0, a1)]) (st' := [(2, g)]) rfl ?_
      refine wp_gf (pc' := 4) (t := 0) (v := (M g 10)) rfl rfl (by decide) rfl (z_gl0 hg) rfl ?_
      refine wp_if1 rfl rfl rfl (fun (c6 : (M g 10) ≠ 0) => ?_) (fun (c6 : ¬ ((M g 10) ≠ 0)) => ?_)
      · refine wp_run 2 (pc' := 13) (ls' := [(2, g), (0, a1)]) (st' := [(2, g), (0, a1)]) rfl ?_
        refine wp_gf (pc' := 16) (t := 0) (v := (M g 10)) rfl rfl (by decide) rfl (z_gl0 hg) rfl ?_
        refine wp_rem rfl rfl (b1 c1) ?_
        refine wp_ret rfl rfl ?_
        show wp xs _ mX1_apart 19 [(2, g), (0, a1), (0, a2)] [(0, (z_rem a1 (M g 10))), (0, (z_abs (z_w ((z_div a1 (M g 10)) - 0))))] z_LL M _
        refine wp_run 2 (pc' := 21) (ls' := [(2, g), (0, a1), (0, a2)]) (st' := [(0, a2), (2, g), (0, (z_rem a1 (M g 10))), (0, (z_abs (z_w ((z_div a1 (M g 10)) - 0))))]) rfl ?_
        refine wp_callv (pc' := 24) (as := [(2, g), (0, a2)]) (rest := [(0, (z_rem a1 (M g 10))), (0, (z_abs (z_w ((z_div a1 (M g 10)) - 0))))]) (ls1 := [(2, g), (0, a2)]) rfl rfl rfl rfl (z_args_v rfl rfl rfl rfl (Nat.le_of_ble_eq_true rfl) rfl (by decide) (z_gl0 hg)) rfl ?_
        refine wp_run 1 (pc' := 1) (ls' := [(2, g), (0, a2)]) (st' := [(2, g)]) rfl ?_
        refine wp_gf (pc' := 4) (t := 0) (v := (M g 10)) rfl rfl (by decide) rfl (z_gl0 hg) rfl ?_
        refine wp_if1 rfl rfl rfl (fun (c7 : (M g 10) ≠ 0) => ?_) (fun (c7 : ¬ ((M g 10) ≠ 0)) => ?_)
        · refine wp_run 2 (pc' := 13) (ls' := [(2, g), (0, a2)]) (st' := [(2, g), (0, a2)]) rfl ?_
          refine wp_gf (pc' := 16) (t := 0) (v := (M g 10)) rfl rfl (by decide) rfl (z_gl0 hg) rfl ?_
          refine wp_rem rfl rfl (b1 c1) ?_
          refine wp_ret rfl rfl ?_
          show wp xs _ mX1_apart 24 [(2, g), (0, a1), (0, a2)] [(0, (z_rem a2 (M g 10))), (0, (z_rem a1 (M g 10))), (0, (z_abs (z_w ((z_div a1 (M g 10)) - 0))))] z_LL M _
          refine wp_run 1 (pc' := 25) (ls' := [(2, g), (0, a1), (0, a2)]) (st' := [(0, (z_w ((z_rem a1 (M g 10)) - (z_rem a2 (M g 10))))), (0, (z_abs (z_w ((z_div a1 (M g 10)) - 0))))]) rfl ?_
          refine wp_abs (pc' := 28) rfl rfl (Nat.le_of_ble_eq_true rfl) ?_
          refine wp_run 1 (pc' := 29) (ls' := [(2, g), (0, a1), (0, a2)]) (st' := [(0, (z_w ((z_abs (z_w ((z_div a1 (M g 10)) - 0))) + (z_abs (z_w ((z_rem a1 (M g 10)) - (z_rem a2 (M g 10))))))))]) rfl ?_
          exact wp_ret rfl rfl (l5 c1 c2 c6 c7)
        · refine wp_run 2 (pc' := 17) (ls' := [(2, g), (0, a2)]) (st' := [(0, 0)]) rfl ?_
          refine wp_ret rfl rfl ?_
          show wp xs _ mX1_apart 24 [(2, g), (0, a1), (0, a2)] [(0, 0), (0, (z_rem a1 (M g 10))), (0, (z_abs (z_w ((z_div a1 (M g 10)) - 0))))] z_LL M _
          refine wp_run 1 (pc' := 25) (ls' := [(2, g), (0, a1), (0, a2)]) (st' := [(0, (z_w ((z_rem a1 (M g 10)) - 0))), (0, (z_abs (z_w ((z_div a1 (M g 10)) - 0))))]) rfl ?_
          refine wp_abs (pc' := 28) rfl rfl (Nat.le_of_ble_eq_true rfl) ?_
          refine wp_run 1 (pc' := 29) (ls' := [(2, g), (0, a1), (0, a2)]) (st' := [(0, (z_w ((z_abs (z_w ((z_div a1 (M g 10)) - 0))) + (z_abs (z_w ((z_rem a1 (M g 10)) - 0))))))]) rfl ?_
          exact wp_ret rfl rfl (l6 c1 c2 c6 c7)
      · refine wp_run 2 (pc' := 17) (ls' := [(2, g), (0, a1)]) (st' := [(0, 0)]) rfl ?_
        refine wp_ret rfl rfl ?_
        show wp xs _ mX1_apart 19 [(2, g), (0, a1), (0, a2)] [(0, 0), (0, (z_abs (z_w ((z_div a1 (M g 10)) - 0))))] z_LL M _
        refine wp_run 2 (pc' := 21) (ls' := [(2, g), (0, a1), (0, a2)]) (st' := [(0, a2), (2, g), (0, 0), (0, (z_abs (z_w ((z_div a1 (M g 10)) - 0))))]) rfl ?_
        refine wp_callv (pc' := 24) (as := [(2, g), (0, a2)]) (rest := [(0, 0), (0, (z_abs (z_w ((z_div a1 (M g 10)) - 0))))]) (ls1 := [(2, g), (0, a2)]) rfl rfl rfl rfl (z_args_v rfl rfl rfl rfl (Nat.le_of_ble_eq_true rfl) rfl (by decide) (z_gl0 hg)) rfl ?_
        refine wp_run 1 (pc' := 1) (ls' := [(2, g), (0, a2)]) (st' := [(2, g)]) rfl ?_
        refine wp_gf (pc' := 4) (t := 0) (v := (M g 10)) rfl rfl (by decide) rfl (z_gl0 hg) rfl ?_
        refine wp_if1 rfl rfl rfl (fun (c8 : (M g 10) ≠ 0) => ?_) (fun (c8 : ¬ ((M g 10) ≠ 0)) => ?_)
        · refine wp_run 2 (pc' := 13) (ls' := [(2, g), (0, a2)]) (st' := [(2, g), (0, a2)]) rfl ?_
          refine wp_gf (pc' := 16) (t := 0) (v := (M g 10)) rfl rfl (by decide) rfl (z_gl0 hg) rfl ?_
          refine wp_rem rfl rfl (b1 c1) ?_
          refine wp_ret rfl rfl ?_
          show wp xs _ mX1_apart 24 [(2, g), (0, a1), (0, a2)] [(0, (z_rem a2 (M g 10))), (0, 0), (0, (z_abs (z_w ((z_div a1 (M g 10)) - 0))))] z_LL M _
          refine wp_run 1 (pc' := 25) (ls' := [(2, g), (0, a1), (0, a2)]) (st' := [(0, (z_w (0 - (z_rem a2 (M g 10))))), (0, (z_abs (z_w ((z_div a1 (M g 10)) - 0))))]) rfl ?_
          refine wp_abs (pc' := 28) rfl rfl (Nat.le_of_ble_eq_true rfl) ?_
          refine wp_run 1 (pc' := 29) (ls' := [(2, g), (0, a1), (0, a2)]) (st' := [(0, (z_w ((z_abs (z_w ((z_div a1 (M g 10)) - 0))) + (z_abs (z_w (0 - (z_rem a2 (M g 10))))))))]) rfl ?_
          exact wp_ret rfl rfl (l7 c1 c2 c6 c8)
        · refine wp_run 2 (pc' := 17) (ls' := [(2, g), (0, a2)]) (st' := [(0, 0)]) rfl ?_
          refine wp_ret rfl rfl ?_
          show wp xs _ mX1_apart 24 [(2, g), (0, a1), (0, a2)] [(0, 0), (0, 0), (0, (z_abs (z_w ((z_div a1 (M g 10)) - 0))))] z_LL M _
          refine wp_run 1 (pc' := 25) (ls' := [(2, g), (0, a1), (0, a2)]) (st' := [(0, 0), (0, (z_abs (z_w ((z_div a1 (M g 10)) - 0))))]) rfl ?_
          refine wp_abs (pc' := 28) rfl rfl (Nat.le_of_ble_eq_true rfl) ?_
          refine wp_run 1 (pc' := 29) (ls' := [(2, g), (0, a1), (0, a2)]) (st' := [(0, (z_w ((z_abs (z_w ((z_div a1 (M g 10)) - 0))) + (z_abs 0))))]) rfl ?_
          exact wp_ret rfl rfl (l8 c1 c2 c6 c8)
  · refine wp_run 2 (pc' := 17) (ls' := [(2, g), (0, a1)]) (st' := [(0, 0)]) rfl ?_
    refine wp_ret rfl rfl ?_
    show wp xs _ mX1_apart 5 [(2, g), (0, a1), (0, a2)] [(0, 0)] z_LL M _
    refine wp_run 2 (pc' := 7) (ls' := [(2, g), (0, a1), (0, a2)]) (st' := [(0, a2), (2, g), (0, 0)]) rfl ?_
    refine wp_callv (pc' := 10) (as := [(2, g), (0, a2)]) (rest := [(0, 0)]) (ls1 := [(2, g), (0, a2)]) rfl rfl rfl rfl (z_args_v rfl rfl rfl rfl (Nat.le_of_ble_eq_true rfl) rfl (by decide) (z_gl0 hg)) rfl ?_
    refine wp_run 1 (pc' := 1) (ls' := [(2, g), (0, a2)]) (st' := [(2, g)]) rfl ?_
    refine wp_gf (pc' := 4) (t := 0) (v := (M g 10)) rfl rfl (by decide) rfl (z_gl0 hg) rfl ?_
    refine wp_if1 rfl rfl rfl (fun (c9 : (M g 10) ≠ 0) => ?_) (fun (c9 : ¬ ((M g 10) ≠ 0)) => ?_)
    · refine wp_run 2 (pc' := 13) (ls' := [(2, g), (0, a2)]) (st' := [(2, g), (0, a2)]) rfl ?_
      refine wp_gf (pc' := 16) (t := 0) (v := (M g 10)) rfl rfl (by decide) rfl (z_gl0 hg) rfl ?_
      refine wp_div rfl rfl (b2 c1 c9) ?_
      refine wp_ret rfl rfl ?_
      show wp xs _ mX1_apart 10 [(2, g), (0, a1), (0, a2)] [(0, (z_div a2 (M g 10))), (0, 0)] z_LL M _
      refine wp_run 1 (pc' := 11) (ls' := [(2, g), (0, a1), (0, a2)]) (st' := [(0, (z_w (0 - (z_div a2 (M g 10)))))]) rfl ?_
      refine wp_abs (pc' := 14) rfl rfl (Nat.le_of_ble_eq_true rfl) ?_
      refine wp_run 2 (pc' := 16) (ls' := [(2, g), (0, a1), (0, a2)]) (st' := [(0, a1), (2, g), (0, (z_abs (z_w (0 - (z_div a2 (M g 10))))))]) rfl ?_
      refine wp_callv (pc' := 19) (as := [(2, g), (0, a1)]) (rest := [(0, (z_abs (z_w (0 - (z_div a2 (M g 10))))))]) (ls1 := [(2, g), (0, a1)]) rfl rfl rfl rfl (z_args_v rfl rfl rfl rfl (Nat.le_of_ble_eq_true rfl) rfl (by decide) (z_gl0 hg)) rfl ?_
      refine wp_run 1 (pc' := 1) (ls' := [(2, g), (0, a1)]) (st' := [(2, g)]) rfl ?_
      refine wp_gf (pc' := 4) (t := 0) (v := (M g 10)) rfl rfl (by decide) rfl (z_gl0 hg) rfl ?_
      refine wp_if1 rfl rfl rfl (fun (c10 : (M g 10) ≠ 0) => ?_) (fun (c10 : ¬ ((M g 10) ≠ 0)) => ?_)
      · refine wp_run 2 (pc' := 13) (ls' := [(2, g), (0, a1)]) (st' := [(2, g), (0, a1)]) rfl ?_
        refine wp_gf (pc' := 16) (t := 0) (v := (M g 10)) rfl rfl (by decide) rfl (z_gl0 hg) rfl ?_
        refine wp_rem rfl rfl (b2 c1 c9) ?_
        refine wp_ret rfl rfl ?_
        show wp xs _ mX1_apart 19 [(2, g), (0, a1), (0, a2)] [(0, (z_rem a1 (M g 10))), (0, (z_abs (z_w (0 - (z_div a2 (M g 10))))))] z_LL M _
        refine wp_run 2 (pc' := 21) (ls' := [(2, g), (0, a1), (0, a2)]) (st' := [(0, a2), (2, g), (0, (z_rem a1 (M g 10))), (0, (z_abs (z_w (0 - (z_div a2 (M g 10))))))]) rfl ?_
        refine wp_callv (pc' := 24) (as := [(2, g), (0, a2)]) (rest := [(0, (z_rem a1 (M g 10))), (0, (z_abs (z_w (0 - (z_div a2 (M g 10))))))]) (ls1 := [(2, g), (0, a2)]) rfl rfl rfl rfl (z_args_v rfl rfl rfl rfl (Nat.le_of_ble_eq_true rfl) rfl (by decide) (z_gl0 hg)) rfl ?_
        refine wp_run 1 (pc' := 1) (ls' := [(2, g), (0, a2)]) (st' := [(2, g)]) rfl ?_
        refine wp_gf (pc' := 4) (t := 0) (v := (M g 10)) rfl rfl (by decide) rfl (z_gl0 hg) rfl ?_
        refine wp_if1 rfl rfl rfl (fun (c11 : (M g 10) ≠ 0) => ?_) (fun (c11 : ¬ ((M g 10) ≠ 0)) => ?_)
        · refine wp_run 2 (pc' := 13) (ls' := [(2, g), (0, a2)]) (st' := [(2, g), (0, a2)]) rfl ?_
          refine wp_gf (pc' := 16) (t := 0) (v := (M g 10)) rfl rfl (by decide) rfl (z_gl0 hg) rfl ?_
          refine wp_rem rfl rfl (b2 c1 c9) ?_
          refine wp_ret rfl rfl ?_
          show wp xs _ mX1_apart 24 [(2, g), (0, a1), (0, a2)] [(0, (z_rem a2 (M g 10))), (0, (z_rem a1 (M g 10))), (0, (z_abs (z_w (0 - (z_div a2 (M g 10))))))] z_LL M _
          refine wp_run 1 (pc' := 25) (ls' := [(2, g), (0, a1), (0, a2)]) (st' := [(0, (z_w ((z_rem a1 (M g 10)) - (z_rem a2 (M g 10))))), (0, (z_abs (z_w (0 - (z_div a2 (M g 10))))))]) rfl ?_
          refine wp_abs (pc' := 28) rfl rfl (Nat.le_of_ble_eq_true rfl) ?_
          refine wp_run 1 (pc' := 29) (ls' := [(2, g), (0, a1), (0, a2)]) (st' := [(0, (z_w ((z_abs (z_w (0 - (z_div a2 (M g 10))))) + (z_abs (z_w ((z_rem a1 (M g 10)) - (z_rem a2 (M g 10))))))))]) rfl ?_
          exact wp_ret rfl rfl (l9 c1 c9 c10 c11)
        · refine wp_run 2 (pc' := 17) (ls' := [(2, g), (0, a2)]) (st' := [(0, 0)]) rfl ?_
          refine wp_ret rfl rfl ?_
          show wp xs _ mX1_apart 24 [(2, g), (0, a1), (0, a2)] [(0, 0), (0, (z_rem a1 (M g 10))), (0, (z_abs (z_w (0 - (z_div a2 (M g 10))))))] z_LL M _
          refine wp_run 1 (pc' := 25) (ls' := [(2, g), (0, a1), (0, a2)]) (st' := [(0, (z_w ((z_rem a1 (M g 10)) - 0))), (0, (z_abs (z_w (0 - (z_div a2 (M g 10))))))]) rfl ?_
          refine wp_abs (pc' := 28) rfl rfl (Nat.le_of_ble_eq_true rfl) ?_
          refine wp_run 1 (pc' := 29) (ls' := [(2, g), (0, a1), (0, a2)]) (st' := [(0, (z_w ((z_abs (z_w (0 - (z_div a2 (M g 10))))) + (z_abs (z_w ((z_rem a1 (M g 10)) - 0))))))]) rfl ?_
          exact wp_ret rfl rfl (l10 c1 c9 c10 c11)
      · refine wp_run 2 (pc' := 17) (ls' := [(2, g), (0, a1)]) (st' := [(0, 0)]) rfl ?_
        refine wp_ret rfl rfl ?_
        show wp xs _ mX1_apart 19 [(2, g), (0, a1), (0, a2)] [(0, 0), (0, (z_abs (z_w (0 - (z_div a2 (M g 10))))))] z_LL M _
        refine wp_run 2 (pc' := 21) (ls' := [(2, g), (0, a1), (0, a2)]) (st' := [(0, a2), (2, g), (0, 0), (0, (z_abs (z_w (0 - (z_div a2 (M g 10))))))]) rfl ?_
        refine wp_callv (pc' := 24) (as := [(2, g), (0, a2)]) (rest := [(0, 0), (0, (z_abs (z_w (0 - (z_div a2 (M g 10))))))]) (ls1 := [(2, g), (0, a2)]) rfl rfl rfl rfl (z_args_v rfl rfl rfl rfl (Nat.le_of_ble_eq_true rfl) rfl (by decide) (z_gl0 hg)) rfl ?_
        refine wp_run 1 (pc' := 1) (ls' := [(2, g), (0, a2)]) (st' := [(2, g)]) rfl ?_
        refine wp_gf (pc' := 4) (t := 0) (v := (M g 10)) rfl rfl (by decide) rfl (z_gl0 hg) rfl ?_
        refine wp_if1 rfl rfl rfl (fun (c12 : (M g 10) ≠ 0) => ?_) (fun (c12 : ¬ ((M g 10) ≠ 0)) => ?_)
        · refine wp_run 2 (pc' := 13) (ls' := [(2, g), (0, a2)]) (st' := [(2, g), (0, a2)]) rfl ?_
          refine wp_gf (pc' := 16) (t := 0) (v := (M g 10)) rfl rfl (by decide) rfl (z_gl0 hg) rfl ?_
          refine wp_rem rfl rfl (b2 c1 c9) ?_
          refine wp_ret rfl rfl ?_
          show wp xs _ mX1_apart 24 [(2, g), (0, a1), (0, a2)] [(0, (z_rem a2 (M g 10))), (0, 0), (0, (z_abs (z_w (0 - (z_div a2 (M g 10))))))] z_LL M _
          refine wp_run 1 (pc' := 25) (ls' := [(2, g), (0, a1), (0, a2)]) (st' := [(0, (z_w (0 - (z_rem a2 (M g 10))))), (0, (z_abs (z_w (0 - (z_div a2 (M g 10))))))]) rfl ?_
          refine wp_abs (pc' := 28) rfl rfl (Nat.le_of_ble_eq_true rfl) ?_
          refine wp_run 1 (pc' := 29) (ls' := [(2, g), (0, a1), (0, a2)]) (st' := [(0, (z_w ((z_abs (z_w (0 - (z_div a2 (M g 10))))) + (z_abs (z_w (0 - (z_rem a2 (M g 10))))))))]) rfl ?_
          exact wp_ret rfl rfl (l11 c1 c9 c10 c12)
        · refine wp_run 2 (pc' := 17) (ls' := [(2, g), (0, a2)]) (st' := [(0, 0)]) rfl ?_
          refine wp_ret rfl rfl ?_
          show wp xs _ mX1_apart 24 [(2, g), (0, a1), (0, a2)] [(0, 0), (0, 0), (0, (z_abs (z_w (0 - (z_div a2 (M g 10))))))] z_LL M _
          refine wp_run 1 (pc' := 25) (ls' := [(2, g), (0, a1), (0, a2)]) (st' := [(0, 0), (0, (z_abs (z_w (0 - (z_div a2 (M g 10))))))]) rfl ?_
          refine wp_abs (pc' := 28) rfl rfl (Nat.le_of_ble_eq_true rfl) ?_
          refine wp_run 1 (pc' := 29) (ls' := [(2, g), (0, a1), (0, a2)]) (st' := [(0, (z_w ((z_abs (z_w (0 - (z_div a2 (M g 10))))) + (z_abs 0))))]) rfl ?_
          exact wp_ret rfl rfl (l12 c1 c9 c10 c12)
    · refine wp_run 2 (pc' := 17) (ls' := [(2, g), (0, a2)]) (st' := [(0, 0)]) rfl ?_
      refine wp_ret rfl rfl ?_
      show wp xs _ mX1_apart 10 [(2, g), (0, a1), (0, a2)] [(0, 0), (0, 0)] z_LL M _
      refine wp_run 1 (pc' := 11) (ls' := [(2, g), (0, a1), (0, a2)]) (st' := [(0, 0)]) rfl ?_
      refine wp_abs (pc' := 14) rfl rfl (Nat.le_of_ble_eq_true rfl) ?_
      refine wp_run 2 (pc' := 16) (ls' := [(2, g), (0, a1), (0, a2)]) (st' := [(0, a1), (2, g), (0, (z_abs 0))]) rfl ?_
      refine wp_callv (pc' := 19) (as := [(2, g), (0, a1)]) (rest := [(0, (z_abs 0))]) (ls1 := [(2, g), (0, a1)]) rfl rfl rfl rfl (z_args_v rfl rfl rfl rfl (Nat.le_of_ble_eq_true rfl) rfl (by decide) (z_gl0 hg)) rfl ?_
      refine wp_run 1 (pc' := 1) (ls' := [(2, g), (0, a1)]) (st' := [(2, g)]) rfl ?_
      refine wp_gf (pc' := 4) (t := 0) (v := (M g 10)) rfl rfl (by decide) rfl (z_gl0 hg) rfl ?_
      refine wp_if1 rfl rfl rfl (fun (c13 : (M g 10) ≠ 0) => ?_) (fun (c13 : ¬ ((M g 10) ≠ 0)) => ?_)
      · refine wp_run 2 (pc' := 13) (ls' := [(2, g), (0, a1)]) (st' := [(2, g), (0, a1)]) rfl ?_
        refine wp_gf (pc' := 16) (t := 0) (v := (M g 10)) rfl rfl (by decide) rfl (z_gl0 hg) rfl ?_
        refine wp_rem rfl rfl (b3 c1 c9 c13) ?_
        refine wp_ret rfl rfl ?_
        show wp xs _ mX1_apart 19 [(2, g), (0, a1), (0, a2)] [(0, (z_rem a1 (M g 10))), (0, (z_abs 0))] z_LL M _
        refine wp_run 2 (pc' := 21) (ls' := [(2, g), (0, a1), (0, a2)]) (st' := [(0, a2), (2, g), (0, (z_rem a1 (M g 10))), (0, (z_abs 0))]) rfl ?_
        refine wp_callv (pc' := 24) (as := [(2, g), (0, a2)]) (rest := [(0, (z_rem a1 (M g 10))), (0, (z_abs 0))]) (ls1 := [(2, g), (0, a2)]) rfl rfl rfl rfl (z_args_v rfl rfl rfl rfl (Nat.le_of_ble_eq_true rfl) rfl (by decide) (z_gl0 hg)) rfl ?_
        refine wp_run 1 (pc' := 1) (ls' := [(2, g), (0, a2)]) (st' := [(2, g)]) rfl ?_
        refine wp_gf (pc' := 4) (t := 0) (v := (M g 10)) rfl rfl (by decide) rfl (z_gl0 hg) rfl ?_
        refine wp_if1 rfl rfl rfl (fun (c14 : (M g 10) ≠ 0) => ?_) (fun (c14 : ¬ ((M g 10) ≠ 0)) => ?_)
        · refine wp_run 2 (pc' := 13) (ls' := [(2, g), (0, a2)]) (st' := [(2, g), (0, a2)]) rfl ?_
          refine wp_gf (pc' := 16) (t := 0) (v := (M g 10)) rfl rfl (by decide) rfl (z_gl0 hg) rfl ?_
          refine wp_rem rfl rfl (b3 c1 c9 c13) ?_
          refine wp_ret rfl rfl ?_
          show wp xs _ mX1_apart 24 [(2, g), (0, a1), (0, a2)] [(0, (z_rem a2 (M g 10))), (0, (z_rem a1 (M g 10))), (0, (z_abs 0))] z_LL M _
          refine wp_run 1 (pc' := 25) (ls' := [(2, g), (0, a1), (0, a2)]) (st' := [(0, (z_w ((z_rem a1 (M g 10)) - (z_rem a2 (M g 10))))), (0, (z_abs 0))]) rfl ?_
          refine wp_abs (pc' := 28) rfl rfl (Nat.le_of_ble_eq_true rfl) ?_
          refine wp_run 1 (pc' := 29) (ls' := [(2, g), (0, a1), (0, a2)]) (st' := [(0, (z_w ((z_abs 0) + (z_abs (z_w ((z_rem a1 (M g 10)) - (z_rem a2 (M g 10))))))))]) rfl ?_
          exact wp_ret rfl rfl (l13 c1 c9 c13 c14)
        · refine wp_run 2 (pc' := 17) (ls' := [(2, g), (0, a2)]) (st' := [(0, 0)]) rfl ?_
          refine wp_ret rfl rfl ?_
          show wp xs _ mX1_apart 24 [(2, g), (0, a1), (0, a2)] [(0, 0), (0, (z_rem a1 (M g 10))), (0, (z_abs 0))] z_LL M _
          refine wp_run 1 (pc' := 25) (ls' := [(2, g), (0, a1), (0, a2)]) (st' := [(0, (z_w ((z_rem a1 (M g 10)) - 0))), (0, (z_abs 0))]) rfl ?_
          refine wp_abs (pc' := 28) rfl rfl (Nat.le_of_ble_eq_true rfl) ?_
          refine wp_run 1 (pc' := 29) (ls' := [(2, g), (0, a1), (0, a2)]) (st' := [(0, (z_w ((z_abs 0) + (z_abs (z_w ((z_rem a1 (M g 10)) - 0))))))]) rfl ?_
          exact wp_ret rfl rfl (l14 c1 c9 c13 c14)
      · refine wp_run 2 (pc' := 17) (ls' := [(2, g), (0, a1)]) (st' := [(0, 0)]) rfl ?_
        refine wp_ret rfl rfl ?_
        show wp xs _ mX1_apart 19 [(2, g), (0, a1), (0, a2)] [(0, 0), (0, (z_abs 0))] z_LL M _
        refine wp_run 2 (pc' := 21) (ls' := [(2, g), (0, a1), (0, a2)]) (st' := [(0, a2), (2, g), (0, 0), (0, (z_abs 0))]) rfl ?_
        refine wp_callv (pc' := 24) (as := [(2, g), (0, a2)]) (rest := [(0, 0), (0, (z_abs 0))]) (ls1 := [(2, g), (0, a2)]) rfl rfl rfl rfl (z_args_v rfl rfl rfl rfl (Nat.le_of_ble_eq_true rfl) rfl (by decide) (z_gl0 hg)) rfl ?_
        refine wp_run 1 (pc' := 1) (ls' := [(2, g), (0, a2)]) (st' := [(2, g)]) rfl ?_
        refine wp_gf (pc' := 4) (t := 0) (v := (M g 10)) rfl rfl (by decide) rfl (z_gl0 hg) rfl ?_
        refine wp_if1 rfl rfl rfl (fun (c15 : (M g 10) ≠ 0) => ?_) (fun (c15 : ¬ ((M g 10) ≠ 0)) => ?_)
        · refine wp_run 2 (pc' := 13) (ls' := [(2, g), (0, a2)]) (st' := [(2, g), (0, a2)]) rfl ?_
          refine wp_gf (pc' := 16) (t := 0) (v := (M g 10)) rfl rfl (by decide) rfl (z_gl0 hg) rfl ?_
          refine wp_rem rfl rfl (b4 c1 c9 c13 c15) ?_
          refine wp_ret rfl rfl ?_
          show wp xs _ mX1_apart 24 [(2, g), (0, a1), (0, a2)] [(0, (z_rem a2 (M g 10))), (0, 0), (0, (z_abs 0))] z_LL M _
          refine wp_run 1 (pc' := 25) (ls' := [(2, g), (0, a1), (0, a2)]) (st' := [(0, (z_w (0 - (z_rem a2 (M g 10))))), (0, (z_abs 0))]) rfl ?_
          refine wp_abs (pc' := 28) rfl rfl (Nat.le_of_ble_eq_true rfl) ?_
          refine wp_run 1 (pc' := 29) (ls' := [(2, g), (0, a1), (0, a2)]) (st' := [(0, (z_w ((z_abs 0) + (z_abs (z_w (0 - (z_rem a2 (M g 10))))))))]) rfl ?_
          exact wp_ret rfl rfl (l15 c1 c9 c13 c15)
        · refine wp_run 2 (pc' := 17) (ls' := [(2, g), (0, a2)]) (st' := [(0, 0)]) rfl ?_
          refine wp_ret rfl rfl ?_
          show wp xs _ mX1_apart 24 [(2, g), (0, a1), (0, a2)] [(0, 0), (0, 0), (0, (z_abs 0))] z_LL M _
          refine wp_run 1 (pc' := 25) (ls' := [(2, g), (0, a1), (0, a2)]) (st' := [(0, 0), (0, (z_abs 0))]) rfl ?_
          refine wp_abs (pc' := 28) rfl rfl (Nat.le_of_ble_eq_true rfl) ?_
          refine wp_run 1 (pc' := 29) (ls' := [(2, g), (0, a1), (0, a2)]) (st' := [(0, (z_w ((z_abs 0) + (z_abs 0))))]) rfl ?_
          exact wp_ret rfl rfl (l16 c1 c9 c13 c15)
set_option maxRecDepth 20000 in
theorem gX9_salt_0 {xs : List Int} {d : Nat} {M : z_M} {P : Option z_V → z_L → z_M → Prop} {a1 : Int} (hF : z_fix M) (hg1 : z_gor M (M 1 0)) (hh2 : z_her M (M 1 2))
    (l1 : (a1 < 0) → P (some (0, (-1))) z_LL M)
    (l2 : (¬ (a1 < 0)) → ((z_w ((M (M 1 0) 10) * (M (M 1 0) 11))) ≤ a1) → P (some (0, (-1))) z_LL M)
    (l3 : (¬ (a1 < 0)) → (¬ ((z_w ((M (M 1 0) 10) * (M (M 1 0) 11))) ≤ a1)) → wp xs (d + 1) mX4_keep 0 [(2, 47), (2, (M 1 2))] [] z_LL M (fun r L1 M1 => wp xs (d + 2) mX9_salt 24 [(2, 1), (0, a1), (3, 0)] (z_ol r ++ []) L1 M1 P)) :
    wp xs (d + 2) mX9_salt 0 [(2, 1), (0, a1), (3, 0)] [] z_LL M P := by
  refine wp_run 1 (pc' := 1) (ls' := [(2, 1), (0, a1), (3, 0)]) (st' := [(2, 1)]) rfl ?_
  refine wp_gf (pc' := 4) (t := 2) (v := (M 1 0)) rfl rfl (by decide) rfl rfl rfl ?_
  refine wp_run 1 (pc' := 5) (ls' := [(2, 1), (0, a1), (3, 0)]) (st' := [(0, a1), (2, (M 1 0))]) rfl ?_
  refine wp_callv (pc' := 8) (as := [(2, (M 1 0)), (0, a1)]) (rest := []) (ls1 := [(2, (M 1 0)), (0, a1)]) rfl rfl rfl rfl (z_args_v rfl rfl rfl rfl (Nat.le_of_ble_eq_true rfl) rfl (by decide) (z_gl0 hg1)) rfl ?_
  refine wp_run 1 (pc' := 1) (ls' := [(2, (M 1 0)), (0, a1)]) (st' := [(0, a1)]) rfl ?_
  refine wp_if1 rfl rfl rfl (fun (c1 : a1 < 0) => ?_) (fun (c1 : ¬ (a1 < 0)) => ?_)
  · refine wp_run 1 (pc' := 17) (ls' := [(2, (M 1 0)), (0, a1)]) (st' := [(0, 0)]) rfl ?_
    refine wp_ret rfl rfl ?_
    show wp xs _ mX9_salt 8 [(2, 1), (0, a1), (3, 0)] [(0, 0)] z_LL M _
    refine wp_run 2 (pc' := 12) (ls' := [(2, 1), (0, a1), (3, 0)]) (st' := [(0, (-1))]) rfl ?_
    exact wp_ret rfl rfl (l1 c1)
  · refine wp_run 2 (pc' := 6) (ls' := [(2, (M 1 0)), (0, a1)]) (st' := [(2, (M 1 0)), (0, a1)]) rfl ?_
    refine wp_callv (pc' := 9) (as := [(2, (M 1 0))]) (rest := [(0, a1)]) (ls1 := [(2, (M 1 0))]) rfl rfl rfl rfl (z_args_v rfl rfl rfl rfl (Nat.le_of_ble_eq_true rfl) rfl (by decide) (z_gl0 hg1)) rfl ?_
    refine wp_run 1 (pc' := 1) (ls' := [(2, (M 1 0))]) (st' := [(2, (M 1 0))]) rfl ?_
    refine wp_gf (pc' := 4) (t := 0) (v := (M (M 1 0) 10)) rfl rfl (by decide) rfl (z_gl0 hg1) rfl ?_
    refine wp_run 1 (pc' := 5) (ls' := [(2, (M 1 0))]) (st' := [(2, (M 1 0)), (0, (M (M 1 0) 10))]) rfl ?_
    refine wp_gf (pc' := 8) (t := 0) (v := (M (M 1 0) 11)) rfl rfl (by decide) rfl (z_gl0 hg1) rfl ?_
    refine wp_run 1 (pc' := 9) (ls' := [(2, (M 1 0))]) (st' := [(0, (z_w ((M (M 1 0) 10) * (M (M 1 0) 11))))]) rfl ?_
    refine wp_ret rfl rfl ?_
    show wp xs _ mX1_hasCell 9 [(2, (M 1 0)), (0, a1)] [(0, (z_w ((M (M 1 0) 10) * (M (M 1 0) 11)))), (0, a1)] z_LL M _
    refine wp_if2 rfl rfl rfl (fun (c2 : (z_w ((M (M 1 0) 10) * (M (M 1 0) 11))) ≤ a1) => ?_) (fun (c2 : ¬ ((z_w ((M (M 1 0) 10) * (M (M 1 0) 11))) ≤ a1)) => ?_)
    · refine wp_run 1 (pc' := 17) (ls' := [(2, (M 1 0)), (0, a1)]) (st' := [(0, 0)]) rfl ?_
      refine wp_ret rfl rfl ?_
      show wp xs _ mX9_salt 8 [(2, 1), (0, a1), (3, 0)] [(0, 0)] z_LL M _
      refine wp_run 2 (pc' := 12) (ls' := [(2, 1), (0, a1), (3, 0)]) (st' := [(0, (-1))]) rfl ?_
      exact wp_ret rfl rfl (l2 c1 c2)
    · refine wp_run 2 (pc' := 17) (ls' := [(2, (M 1 0)), (0, a1)]) (st' := [(0, 1)]) rfl ?_
      refine wp_ret rfl rfl ?_
      show wp xs _ mX9_salt 8 [(2, 1), (0, a1), (3, 0)] [(0, 1)] z_LL M _
      refine wp_run 2 (pc' := 14) (ls' := [(2, 1), (0, a1), (3, 0)]) (st' := [(2, 1)]) rfl ?_
      refine wp_gf (pc' := 17) (t := 2) (v := 47) rfl rfl (by decide) rfl rfl (fx_1_7 hF) ?_
      refine wp_run 1 (pc' := 18) (ls' := [(2, 1), (0, a1), (3, 0)]) (st' := [(2, 1), (2, 47)]) rfl ?_
      refine wp_gf (pc' := 21) (t := 2) (v := (M 1 2)) rfl rfl (by decide) rfl rfl rfl ?_
      refine wp_callv (pc' := 24) (as := [(2, 47), (2, (M 1 2))]) (rest := []) (ls1 := [(2, 47), (2, (M 1 2))]) rfl rfl rfl rfl rfl rfl ?_
      exact l3 c1 c2
set_option maxRecDepth 20000 in
theorem gX9_salt_24 {xs : List Int} {d : Nat} {M : z_M} {P : Option z_V → z_L → z_M → Prop} {x1 : Int} (hh1 : z_her M (M 1 2))
    (b1 : 0 ≤ x1 ∧ x1 < 25)
    (l1 : P (some (0, (M ((M 1 2) + 4) x1))) z_LL (z_up M ((M 1 2) + 4) x1 9)) :
    wp xs d mX9_salt 24 [(2, 1), (0, x1), (3, 0)] [] z_LL M P := by
  refine wp_run 1 (pc' := 25) (ls' := [(2, 1), (0, x1), (3, 0)]) (st' := [(2, 1)]) rfl ?_
  refine wp_gf (pc' := 28) (t := 2) (v := (M 1 2)) rfl rfl (by decide) rfl rfl rfl ?_
  refine wp_gf (pc' := 31) (t := 2) (v := ((M 1 2) + 4)) rfl rfl (by decide) rfl (z_hl0 hh1) (z_hf3 hh1) ?_
  refine wp_run 1 (pc' := 32) (ls' := [(2, 1), (0, x1), (3, 0)]) (st' := [(0, x1), (2, ((M 1 2) + 4))]) rfl ?_
  refine wp_iald (pc' := 33) (v := (M ((M 1 2) + 4) x1)) rfl rfl (z_hl4 hh1) (b1) rfl ?_
  refine wp_run 2 (pc' := 35) (ls' := [(2, 1), (0, x1), (0, (M ((M 1 2) + 4) x1))]) (st' := [(2, 1)]) rfl ?_
  refine wp_gf (pc' := 38) (t := 2) (v := (M 1 2)) rfl rfl (by decide) rfl rfl rfl ?_
  refine wp_gf (pc' := 41) (t := 2) (v := ((M 1 2) + 4)) rfl rfl (by decide) rfl (z_hl0 hh1) (z_hf3 hh1) ?_
  refine wp_run 2 (pc' := 44) (ls' := [(2, 1), (0, x1), (0, (M ((M 1 2) + 4) x1))]) (st' := [(0, 9), (0, x1), (2, ((M 1 2) + 4))]) rfl ?_
  refine wp_iast (pc' := 45) rfl rfl (z_hl4 hh1) (b1) ?_
  refine wp_run 1 (pc' := 46) (ls' := [(2, 1), (0, x1), (0, (M ((M 1 2) + 4) x1))]) (st' := [(0, (M ((M 1 2) + 4) x1))]) rfl ?_
  exact wp_ret rfl rfl (l1)
set_option maxRecDepth 20000 in
theorem gX10_salt_0 {xs : List Int} {d : Nat} {M : z_M} {P : Option z_V → z_L → z_M → Prop} {a1 : Int} (hF : z_fix M) (hC : z_mc M) 
    (l1 : ((0 ≤ a1 ∧ a1 < M 321 46 * M 321 47)) → wp xs (d + 1) mX10_act 0 [(2, 321), (3, 0)] [] z_LL M (fun r L1 M1 => wp xs (d + 2) mX10_salt 14 [(2, 321), (0, a1), (3, 0)] (z_ol r ++ []) L1 M1 P))
    (l2 : (¬ (0 ≤ a1 ∧ a1 < M 321 46 * M 321 47)) → P (some (0, (-1))) z_LL M) :
    wp xs (d + 2) mX10_salt 0 [(2, 321), (0, a1), (3, 0)] [] z_LL M P := by
  refine wp_run 2 (pc' := 2) (ls' := [(2, 321), (0, a1), (3, 0)]) (st' := [(0, a1), (2, 321)]) rfl ?_
  refine wp_callv (pc' := 5) (as := [(2, 321), (0, a1)]) (rest := []) (ls1 := [(2, 321), (0, a1)]) rfl rfl rfl rfl rfl rfl ?_
  refine s_X10_isCell hF hC ?_
  show wp xs _ mX10_salt 5 [(2, 321), (0, a1), (3, 0)] [(0, (z_b (0 ≤ a1 ∧ a1 < M 321 46 * M 321 47)))] z_LL M _
  refine wp_bn rfl rfl rfl (fun (c1 : (0 ≤ a1 ∧ a1 < M 321 46 * M 321 47)) => ?_) (fun (c1 : ¬ (0 ≤ a1 ∧ a1 < M 321 46 * M 321 47)) => ?_)
  · refine wp_run 1 (pc' := 11) (ls' := [(2, 321), (0, a1), (3, 0)]) (st' := [(2, 321)]) rfl ?_
    refine wp_callv (pc' := 14) (as := [(2, 321)]) (rest := []) (ls1 := [(2, 321), (3, 0)]) rfl rfl rfl rfl rfl rfl ?_
    exact l1 c1
  · refine wp_run 1 (pc' := 9) (ls' := [(2, 321), (0, a1), (3, 0)]) (st' := [(0, (-1))]) rfl ?_
    exact wp_ret rfl rfl (l2 c1)
set_option maxRecDepth 20000 in
theorem gX10_salt_14 {xs : List Int} {d : Nat} {M : z_M} {P : Option z_V → z_L → z_M → Prop} {x1 : Int} (hF : z_fix M) 
    (b1 : 0 ≤ (z_w (79 + x1)) ∧ (z_w (79 + x1)) < 106)
    (l1 : P (some (0, (M 342 (z_w (79 + x1))))) z_LL (z_up M 342 (z_w (79 + x1)) 9)) :
    wp xs d mX10_salt 14 [(2, 321), (0, x1), (3, 0)] [] z_LL M P := by
  refine wp_run 1 (pc' := 15) (ls' := [(2, 321), (0, x1), (3, 0)]) (st' := [(2, 321)]) rfl ?_
  refine wp_gf (pc' := 18) (t := 2) (v := 342) rfl rfl (by decide) rfl rfl (fx_321_60 hF) ?_
  refine wp_run 3 (pc' := 22) (ls' := [(2, 321), (0, x1), (3, 0)]) (st' := [(0, (z_w (79 + x1))), (2, 342)]) rfl ?_
  refine wp_iald (pc' := 23) (v := (M 342 (z_w (79 + x1)))) rfl rfl rfl (b1) rfl ?_
  refine wp_run 2 (pc' := 25) (ls' := [(2, 321), (0, x1), (0, (M 342 (z_w (79 + x1))))]) (st' := [(2, 321)]) rfl ?_
  refine wp_gf (pc' := 28) (t := 2) (v := 342) rfl rfl (by decide) rfl rfl (fx_321_60 hF) ?_
  refine wp_run 4 (pc' := 34) (ls' := [(2, 321), (0, x1), (0, (M 342 (z_w (79 + x1))))]) (st' := [(0, 9), (0, (z_w (79 + x1))), (2, 342)]) rfl ?_
  refine wp_iast (pc' := 35) rfl rfl rfl (b1) ?_
  refine wp_run 1 (pc' := 36) (ls' := [(2, 321), (0, x1), (0, (M 342 (z_w (79 + x1))))]) (st' := [(0, (M 342 (z_w (79 + x1))))]) rfl ?_
  exact wp_ret rfl rfl (l1)
set_option maxRecDepth 20000 in
theorem gX9_pen_0 {xs : List Int} {d : Nat} {M : z_M} {P : Option z_V → z_L → z_M → Prop} {a1 : Int} (hF : z_fix M) (hg1 : z_gor M (M 1 0)) (hh2 : z_her M (M 1 2))
    (l1 : (a1 < 0) → P (some (0, (-1))) z_LL M)
    (l2 : (¬ (a1 < 0)) → ((M (M 1 0) 12) ≤ a1) → P (some (0, (-1))) z_LL M)
    (l3 : (¬ (a1 < 0)) → (¬ ((M (M 1 0) 12) ≤ a1)) → wp xs d mX4_keep 0 [(2, 47), (2, (M 1 2))] [] z_LL M (fun r L1 M1 => wp xs (d + 1) mX9_pen 24 [(2, 1), (0, a1)] (z_ol r ++ []) L1 M1 P)) :
    wp xs (d + 1) mX9_pen 0 [(2, 1), (0, a1)] [] z_LL M P := by
  refine wp_run 1 (pc' := 1) (ls' := [(2, 1), (0, a1)]) (st' := [(2, 1)]) rfl ?_
  refine wp_gf (pc' := 4) (t := 2) (v := (M 1 0)) rfl rfl (by decide) rfl rfl rfl ?_
  refine wp_run 1 (pc' := 5) (ls' := [(2, 1), (0, a1)]) (st' := [(0, a1), (2, (M 1 0))]) rfl ?_
  refine wp_callv (pc' := 8) (as := [(2, (M 1 0)), (0, a1)]) (rest := []) (ls1 := [(2, (M 1 0)), (0, a1)]) rfl rfl rfl rfl (z_args_v rfl rfl rfl rfl (Nat.le_of_ble_eq_true rfl) rfl (by decide) (z_gl0 hg1)) rfl ?_
  refine wp_run 1 (pc' := 1) (ls' := [(2, (M 1 0)), (0, a1)]) (st' := [(0, a1)]) rfl ?_
  refine wp_if1 rfl rfl rfl (fun (c1 : a1 < 0) => ?_) (fun (c1 : ¬ (a1 < 0)) => ?_)
  · refine wp_run 1 (pc' := 17) (ls' := [(2, (M 1 0)), (0, a1)]) (st' := [(0, 0)]) rfl ?_
    refine wp_ret rfl rfl ?_
    show wp xs _ mX9_pen 8 [(2, 1), (0, a1)] [(0, 0)] z_LL M _
    refine wp_run 2 (pc' := 12) (ls' := [(2, 1), (0, a1)]) (st' := [(0, (-1))]) rfl ?_
    exact wp_ret rfl rfl (l1 c1)
  · refine wp_run 2 (pc' := 6) (ls' := [(2, (M 1 0)), (0, a1)]) (st' := [(2, (M 1 0)), (0, a1)]) rfl ?_
    refine wp_gf (pc' := 9) (t := 0) (v := (M (M 1 0) 12)) rfl rfl (by decide) rfl (z_gl0 hg1) rfl ?_
    refine wp_if2 rfl rfl rfl (fun (c2 : (M (M 1 0) 12) ≤ a1) => ?_) (fun (c2 : ¬ ((M (M 1 0) 12) ≤ a1)) => ?_)
    · refine wp_run 1 (pc' := 17) (ls' := [(2, (M 1 0)), (0, a1)]) (st' := [(0, 0)]) rfl ?_
      refine wp_ret rfl rfl ?_
      show wp xs _ mX9_pen 8 [(2, 1), (0, a1)] [(0, 0)] z_LL M _
      refine wp_run 2 (pc' := 12) (ls' := [(2, 1), (0, a1)]) (st' := [(0, (-1))]) rfl ?_
      exact wp_ret rfl rfl (l2 c1 c2)
    · refine wp_run 2 (pc' := 17) (ls' := [(2, (M 1 0)), (0, a1)]) (st' := [(0, 1)]) rfl ?_
      refine wp_ret rfl rfl ?_
      show wp xs _ mX9_pen 8 [(2, 1), (0, a1)] [(0, 1)] z_LL M _
      refine wp_run 2 (pc' := 14) (ls' := [(2, 1), (0, a1)]) (st' := [(2, 1)]) rfl ?_
      refine wp_gf (pc' := 17) (t := 2) (v := 47) rfl rfl (by decide) rfl rfl (fx_1_7 hF) ?_
      refine wp_run 1 (pc' := 18) (ls' := [(2, 1), (0, a1)]) (st' := [(2, 1), (2, 47)]) rfl ?_
      refine wp_gf (pc' := 21) (t := 2) (v := (M 1 2)) rfl rfl (by decide) rfl rfl rfl ?_
      refine wp_callv (pc' := 24) (as := [(2, 47), (2, (M 1 2))]) (rest := []) (ls1 := [(2, 47), (2, (M 1 2))]) rfl rfl rfl rfl rfl rfl ?_
      exact l3 c1 c2
set_option maxRecDepth 20000 in
theorem gX9_pen_24 {xs : List Int} {d : Nat} {M : z_M} {P : Option z_V → z_L → z_M → Prop} {x1 : Int} (hh1 : z_her M (M 1 2))
    (l1 : P (some (0, (z_and (z_shr (z_xor (M (M 1 2) 5) (z_shl 1 x1)) x1) 1))) z_LL (z_up M (M 1 2) 5 (z_xor (M (M 1 2) 5) (z_shl 1 x1)))) :
    wp xs d mX9_pen 24 [(2, 1), (0, x1)] [] z_LL M P := by
  refine wp_run 1 (pc' := 25) (ls' := [(2, 1), (0, x1)]) (st' := [(2, 1)]) rfl ?_
  refine wp_gf (pc' := 28) (t := 2) (v := (M 1 2)) rfl rfl (by decide) rfl rfl rfl ?_
  refine wp_run 1 (pc' := 29) (ls' := [(2, 1), (0, x1)]) (st' := [(2, (M 1 2)), (2, (M 1 2))]) rfl ?_
  refine wp_gf (pc' := 32) (t := 0) (v := (M (M 1 2) 5)) rfl rfl (by decide) rfl (z_hl0 hh1) rfl ?_
  refine wp_run 4 (pc' := 36) (ls' := [(2, 1), (0, x1)]) (st' := [(0, (z_xor (M (M 1 2) 5) (z_shl 1 x1))), (2, (M 1 2))]) rfl ?_
  refine wp_pf (pc' := 39) rfl rfl rfl (z_hl0 hh1) (fun z => absurd z (by decide)) (fun z => absurd z (by decide)) ?_
  refine wp_run 1 (pc' := 40) (ls' := [(2, 1), (0, x1)]) (st' := [(2, 1)]) rfl ?_
  refine wp_gf (pc' := 43) (t := 2) (v := (M 1 2)) rfl rfl (by decide) rfl rfl (z_upq (by have := z_hr hh1; omega) rfl) ?_
  refine wp_gf (pc' := 46) (t := 0) (v := (z_xor (M (M 1 2) 5) (z_shl 1 x1))) rfl rfl (by decide) rfl (z_hl0 hh1) z_ups ?_
  refine wp_run 4 (pc' := 50) (ls' := [(2, 1), (0, x1)]) (st' := [(0, (z_and (z_shr (z_xor (M (M 1 2) 5) (z_shl 1 x1)) x1) 1))]) rfl ?_
  exact wp_ret rfl rfl (l1)
set_option maxRecDepth 20000 in
theorem gX10_pen_0 {xs : List Int} {d : Nat} {M : z_M} {P : Option z_V → z_L → z_M → Prop} {a1 : Int} (hF : z_fix M) (hC : z_mc M) 
    (l1 : ((0 ≤ a1 ∧ a1 < M 321 48)) → wp xs (d + 1) mX10_act 0 [(2, 321), (3, 0)] [] z_LL M (fun r L1 M1 => wp xs (d + 2) mX10_pen 14 [(2, 321), (0, a1)] (z_ol r ++ []) L1 M1 P))
    (l2 : (¬ (0 ≤ a1 ∧ a1 < M 321 48)) → P (some (0, (-1))) z_LL M) :
    wp xs (d + 2) mX10_pen 0 [(2, 321), (0, a1)] [] z_LL M P := by
  refine wp_run 2 (pc' := 2) (ls' := [(2, 321), (0, a1)]) (st' := [(0, a1), (2, 321)]) rfl ?_
  refine wp_callv (pc' := 5) (as := [(2, 321), (0, a1)]) (rest := []) (ls1 := [(2, 321), (0, a1)]) rfl rfl rfl rfl rfl rfl ?_
  refine s_X10_isFlock hF hC ?_
  show wp xs _ mX10_pen 5 [(2, 321), (0, a1)] [(0, (z_b (0 ≤ a1 ∧ a1 < M 321 48)))] z_LL M _
  refine wp_bn rfl rfl rfl (fun (c1 : (0 ≤ a1 ∧ a1 < M 321 48)) => ?_) (fun (c1 : ¬ (0 ≤ a1 ∧ a1 < M 321 48)) => ?_)
  · refine wp_run 1 (pc' := 11) (ls' := [(2, 321), (0, a1)]) (st' := [(2, 321)]) rfl ?_
    refine wp_callv (pc' := 14) (as := [(2, 321)]) (rest := []) (ls1 := [(2, 321), (3, 0)]) rfl rfl rfl rfl rfl rfl ?_
    exact l1 c1
  · refine wp_run 1 (pc' := 9) (ls' := [(2, 321), (0, a1)]) (st' := [(0, (-1))]) rfl ?_
    exact wp_ret rfl rfl (l2 c1)
set_option maxRecDepth 20000 in
theorem gX10_pen_14 {xs : List Int} {d : Nat} {M : z_M} {P : Option z_V → z_L → z_M → Prop} {x1 : Int} (hF : z_fix M) 
    (b1 : 0 ≤ (z_w (6 + x1)) ∧ (z_w (6 + x1)) < 106)
    (l1 : P (some (0, (z_w (1 - (M 342 (z_w (6 + x1))))))) z_LL (z_up M 342 (z_w (6 + x1)) (z_w (1 - (M 342 (z_w (6 + x1))))))) :
    wp xs d mX10_pen 14 [(2, 321), (0, x1)] [] z_LL M P := by
  refine wp_run 1 (pc' := 15) (ls' := [(2, 321), (0, x1)]) (st' := [(2, 321)]) rfl ?_
  refine wp_gf (pc' := 18) (t := 2) (v := 342) rfl rfl (by decide) rfl rfl (fx_321_60 hF) ?_
  refine wp_run 5 (pc' := 24) (ls' := [(2, 321), (0, x1)]) (st' := [(2, 321), (0, 1), (0, (z_w (6 + x1))), (2, 342)]) rfl ?_
  refine wp_gf (pc' := 27) (t := 2) (v := 342) rfl rfl (by decide) rfl rfl (fx_321_60 hF) ?_
  refine wp_run 3 (pc' := 31) (ls' := [(2, 321), (0, x1)]) (st' := [(0, (z_w (6 + x1))), (2, 342), (0, 1), (0, (z_w (6 + x1))), (2, 342)]) rfl ?_
  refine wp_iald (pc' := 32) (v := (M 342 (z_w (6 + x1)))) rfl rfl rfl (b1) rfl ?_
  refine wp_run 1 (pc' := 33) (ls' := [(2, 321), (0, x1)]) (st' := [(0, (z_w (1 - (M 342 (z_w (6 + x1)))))), (0, (z_w (6 + x1))), (2, 342)]) rfl ?_
  refine wp_iast (pc' := 34) rfl rfl rfl (b1) ?_
  refine wp_run 1 (pc' := 35) (ls' := [(2, 321), (0, x1)]) (st' := [(2, 321)]) rfl ?_
  refine wp_gf (pc' := 38) (t := 2) (v := 342) rfl rfl (by decide) rfl rfl (z_upq (by decide) (fx_321_60 hF)) ?_
  refine wp_run 3 (pc' := 42) (ls' := [(2, 321), (0, x1)]) (st' := [(0, (z_w (6 + x1))), (2, 342)]) rfl ?_
  refine wp_iald (pc' := 43) (v := (z_w (1 - (M 342 (z_w (6 + x1)))))) rfl rfl rfl (b1) z_ups ?_
  exact wp_ret rfl rfl (l1)
set_option maxRecDepth 20000 in
theorem gX9_drive_0 {xs : List Int} {d : Nat} {M : z_M} {P : Option z_V → z_L → z_M → Prop} {a1 : Int} {a2 : Int} (hg1 : z_gor M (M 1 0)) (hh2 : z_her M (M 1 2))
    (l1 : (a1 < 0) → P (some (0, (-1))) z_LL M)
    (l2 : (¬ (a1 < 0)) → ((M (M 1 0) 12) ≤ a1) → P (some (0, (-1))) z_LL M)
    (l3 : (¬ (a1 < 0)) → (¬ ((M (M 1 0) 12) ≤ a1)) → (a2 < 0) → P (some (0, (-1))) z_LL M)
    (l4 : (¬ (a1 < 0)) → (¬ ((M (M 1 0) 12) ≤ a1)) → (¬ (a2 < 0)) → ((z_w ((M (M 1 0) 10) * (M (M 1 0) 11))) ≤ a2) → P (some (0, (-1))) z_LL M)
    (b1 : (¬ (a1 < 0)) → (¬ ((M (M 1 0) 12) ≤ a1)) → (¬ (a2 < 0)) → (¬ ((z_w ((M (M 1 0) 10) * (M (M 1 0) 11))) ≤ a2)) → ((z_and (z_shr (M (M 1 2) 5) a1) 1) = 0) → 0 ≤ a1 ∧ a1 < 6)
    (l5 : (¬ (a1 < 0)) → (¬ ((M (M 1 0) 12) ≤ a1)) → (¬ (a2 < 0)) → (¬ ((z_w ((M (M 1 0) 10) * (M (M 1 0) 11))) ≤ a2)) → ((z_and (z_shr (M (M 1 2) 5) a1) 1) = 0) → wp xs (d + 1) mX1_apart 0 [(2, (M 1 0)), (0, (M ((M 1 2) + 1) a1)), (0, a2)] [] z_LL M (fun r L1 M1 => wp xs (d + 2) mX9_drive 54 [(2, 1), (0, a1), (0, a2), (0, (M ((M 1 2) + 1) a1))] (z_ol r ++ []) L1 M1 P))
    (l6 : (¬ (a1 < 0)) → (¬ ((M (M 1 0) 12) ≤ a1)) → (¬ (a2 < 0)) → (¬ ((z_w ((M (M 1 0) 10) * (M (M 1 0) 11))) ≤ a2)) → (¬ ((z_and (z_shr (M (M 1 2) 5) a1) 1) = 0)) → P (some (0, (-1))) z_LL M) :
    wp xs (d + 2) mX9_drive 0 [(2, 1), (0, a1), (0, a2), (3, 0)] [] z_LL M P := by
  refine wp_run 1 (pc' := 1) (ls' := [(2, 1), (0, a1), (0, a2), (3, 0)]) (st' := [(2, 1)]) rfl ?_
  refine wp_gf (pc' := 4) (t := 2) (v := (M 1 0)) rfl rfl (by decide) rfl rfl rfl ?_
  refine wp_run 1 (pc' := 5) (ls' := [(2, 1), (0, a1), (0, a2), (3, 0)]) (st' := [(0, a1), (2, (M 1 0))]) rfl ?_
  refine wp_callv (pc' := 8) (as := [(2, (M 1 0)), (0, a1)]) (rest := []) (ls1 := [(2, (M 1 0)), (0, a1)]) rfl rfl rfl rfl (z_args_v rfl rfl rfl rfl (Nat.le_of_ble_eq_true rfl) rfl (by decide) (z_gl0 hg1)) rfl ?_
  refine wp_run 1 (pc' := 1) (ls' := [(2, (M 1 0)), (0, a1)]) (st' := [(0, a1)]) rfl ?_
  refine wp_if1 rfl rfl rfl (fun (c1 : a1 < 0) => ?_) (fun (c1 : ¬ (a1 < 0)) => ?_)
  · refine wp_run 1 (pc' := 17) (ls' := [(2, (M 1 0)), (0, a1)]) (st' := [(0, 0)]) rfl ?_
    refine wp_ret rfl rfl ?_
    show wp xs _ mX9_drive 8 [(2, 1), (0, a1), (0, a2), (3, 0)] [(0, 0)] z_LL M _
    refine wp_run 2 (pc' := 34) (ls' := [(2, 1), (0, a1), (0, a2), (3, 0)]) (st' := [(0, (-1))]) rfl ?_
    exact wp_ret rfl rfl (l1 c1)
  · refine wp_run 2 (pc' := 6) (ls' := [(2, (M 1 0)), (0, a1)]) (st' := [(2, (M 1 0)), (0, a1)]) rfl ?_
    refine wp_gf (pc' := 9) (t := 0) (v := (M (M 1 0) 12)) rfl rfl (by decide) rfl (z_gl0 hg1) rfl ?_
    refine wp_if2 rfl rfl rfl (fun (c2 : (M (M 1 0) 12) ≤ a1) => ?_) (fun (c2 : ¬ ((M (M 1 0) 12) ≤ a1)) => ?_)
    · refine wp_run 1 (pc' := 17) (ls' := [(2, (M 1 0)), (0, a1)]) (st' := [(0, 0)]) rfl ?_
      refine wp_ret rfl rfl ?_
      show wp xs _ mX9_drive 8 [(2, 1), (0, a1), (0, a2), (3, 0)] [(0, 0)] z_LL M _
      refine wp_run 2 (pc' := 34) (ls' := [(2, 1), (0, a1), (0, a2), (3, 0)]) (st' := [(0, (-1))]) rfl ?_
      exact wp_ret rfl rfl (l2 c1 c2)
    · refine wp_run 2 (pc' := 17) (ls' := [(2, (M 1 0)), (0, a1)]) (st' := [(0, 1)]) rfl ?_
      refine wp_ret rfl rfl ?_
      show wp xs _ mX9_drive 8 [(2, 1), (0, a1), (0, a2), (3, 0)] [(0, 1)] z_LL M _
      refine wp_run 2 (pc' := 12) (ls' := [(2, 1), (0, a1), (0, a2), (3, 0)]) (st' := [(2, 1)]) rfl ?_
      refine wp_gf (pc' := 15) (t := 2) (v := (M 1 0)) rfl rfl (by decide) rfl rfl rfl ?_
      refine wp_run 1 (pc' := 16) (ls' := [(2, 1), (0, a1), (0, a2), (3, 0)]) (st' := [(0, a2), (2, (M 1 0))]) rfl ?_
      refine wp_callv (pc' := 19) (as := [(2, (M 1 0)), (0, a2)]) (rest := []) (ls1 := [(2, (M 1 0)), (0, a2)]) rfl rfl rfl rfl (z_args_v rfl rfl rfl rfl (Nat.le_of_ble_eq_true rfl) rfl (by decide) (z_gl0 hg1)) rfl ?_
      refine wp_run 1 (pc' := 1) (ls' := [(2, (M 1 0)), (0, a2)]) (st' := [(0, a2)]) rfl ?_
      refine wp_if1 rfl rfl rfl (fun (c3 : a2 < 0) => ?_) (fun (c3 : ¬ (a2 < 0)) => ?_)
      · refine wp_run 1 (pc' := 17) (ls' := [(2, (M 1 0)), (0, a2)]) (st' := [(0, 0)]) rfl ?_
        refine wp_ret rfl rfl ?_
        show wp xs _ mX9_drive 19 [(2, 1), (0, a1), (0, a2), (3, 0)] [(0, 0)] z_LL M _
        refine wp_run 2 (pc' := 34) (ls' := [(2, 1), (0, a1), (0, a2), (3, 0)]) (st' := [(0, (-1))]) rfl ?_
        exact wp_ret rfl rfl (l3 c1 c2 c3)
      · refine wp_run 2 (pc' := 6) (ls' := [(2, (M 1 0)), (0, a2)]) (st' := [(2, (M 1 0)), (0, a2)]) rfl ?_
        refine wp_callv (pc' := 9) (as := [(2, (M 1 0))]) (rest := [(0, a2)]) (ls1 := [(2, (M 1 0))]) rfl rfl rfl rfl (z_args_v rfl rfl rfl rfl (Nat.le_of_ble_eq_true rfl) rfl (by decide) (z_gl0 hg1)) rfl ?_
        refine wp_run 1 (pc' := 1) (ls' := [(2, (M 1 0))]) (st' := [(2, (M 1 0))]) rfl ?_
        refine wp_gf (pc' := 4) (t := 0) (v := (M (M 1 0) 10)) rfl rfl (by decide) rfl (z_gl0 hg1) rfl ?_
        refine wp_run 1 (pc' := 5) (ls' := [(2, (M 1 0))]) (st' := [(2, (M 1 0)), (0, (M (M 1 0) 10))]) rfl ?_
        refine wp_gf (pc' := 8) (t := 0) (v := (M (M 1 0) 11)) rfl rfl (by decide) rfl (z_gl0 hg1) rfl ?_
        refine wp_run 1 (pc' := 9) (ls' := [(2, (M 1 0))]) (st' := [(0, (z_w ((M (M 1 0) 10) * (M (M 1 0) 11))))]) rfl ?_
        refine wp_ret rfl rfl ?_
        show wp xs _ mX1_hasCell 9 [(2, (M 1 0)), (0, a2)] [(0, (z_w ((M (M 1 0) 10) * (M (M 1 0) 11)))), (0, a2)] z_LL M _
        refine wp_if2 rfl rfl rfl (fun (c4 : (z_w ((M (M 1 0) 10) * (M (M 1 0) 11))) ≤ a2) => ?_) (fun (c4 : ¬ ((z_w ((M (M 1 0) 10) * (M (M 1 0) 11))) ≤ a2)) => ?_)
        · refine wp_run 1 (pc' := 17) (ls' := [(2, (M 1 0)), (0, a2)]) (st' := [(0, 0)]) rfl ?_
          refine wp_ret rfl rfl ?_
          show wp xs _ mX9_drive 19 [(2, 1), (0, a1), (0, a2), (3, 0)] [(0, 0)] z_LL M _
          refine wp_run 2 (pc' := 34) (ls' := [(2, 1), (0, a1), (0, a2), (3, 0)]) (st' := [(0, (-1))]) rfl ?_
          exact wp_ret rfl rfl (l4 c1 c2 c3 c4)
        · refine wp_run 2 (pc' := 17) (ls' := [(2, (M 1 0)), (0, a2)]) (st' := [(0, 1)]) rfl ?_
          refine wp_ret rfl rfl ?_
          show wp xs _ mX9_drive 19 [(2, 1), (0, a1), (0, a2), (3, 0)] [(0, 1)] z_LL M _
          refine wp_run 2 (pc' := 23) (ls' := [(2, 1), (0, a1), (0, a2), (3, 0)]) (st' := [(2, 1)]) rfl ?_
          refine wp_gf (pc' := 26) (t := 2) (v := (M 1 2)) rfl rfl (by decide) rfl rfl rfl ?_
          refine wp_run 1 (pc' := 27) (ls' := [(2, 1), (0, a1), (0, a2), (3, 0)]) (st' := [(0, a1), (2, (M 1 2))]) rfl ?_
          refine wp_callv (pc' := 30) (as := [(2, (M 1 2)), (0, a1)]) (rest := []) (ls1 := [(2, (M 1 2)), (0, a1)]) rfl rfl rfl rfl (z_args_v rfl rfl rfl rfl (Nat.le_of_ble_eq_true rfl) rfl (by decide) (z_hl0 hh2)) rfl ?_
          refine wp_run 1 (pc' := 1) (ls' := [(2, (M 1 2)), (0, a1)]) (st' := [(2, (M 1 2))]) rfl ?_
          refine wp_gf (pc' := 4) (t := 0) (v := (M (M 1 2) 5)) rfl rfl (by decide) rfl (z_hl0 hh2) rfl ?_
          refine wp_run 4 (pc' := 8) (ls' := [(2, (M 1 2)), (0, a1)]) (st' := [(0, (z_and (z_shr (M (M 1 2) 5) a1) 1))]) rfl ?_
          refine wp_if1 rfl rfl rfl (fun (c5 : (z_and (z_shr (M (M 1 2) 5) a1) 1) = 0) => ?_) (fun (c5 : ¬ ((z_and (z_shr (M (M 1 2) 5) a1) 1) = 0)) => ?_)
          · refine wp_run 1 (pc' := 16) (ls' := [(2, (M 1 2)), (0, a1)]) (st' := [(0, 0)]) rfl ?_
            refine wp_ret rfl rfl ?_
            show wp xs _ mX9_drive 30 [(2, 1), (0, a1), (0, a2), (3, 0)] [(0, 0)] z_LL M _
            refine wp_run 2 (pc' := 36) (ls' := [(2, 1), (0, a1), (0, a2), (3, 0)]) (st' := [(2, 1)]) rfl ?_
            refine wp_gf (pc' := 39) (t := 2) (v := (M 1 2)) rfl rfl (by decide) rfl rfl rfl ?_
            refine wp_gf (pc' := 42) (t := 2) (v := ((M 1 2) + 1)) rfl rfl (by decide) rfl (z_hl0 hh2) (z_hf0 hh2) ?_
            refine wp_run 1 (pc' := 43) (ls' := [(2, 1), (0, a1), (0, a2), (3, 0)]) (st' := [(0, a1), (2, ((M 1 2) + 1))]) rfl ?_
            refine wp_iald (pc' := 44) (v := (M ((M 1 2) + 1) a1)) rfl rfl (z_hl1 hh2) (b1 c1 c2 c3 c4 c5) rfl ?_
            refine wp_run 2 (pc' := 46) (ls' := [(2, 1), (0, a1), (0, a2), (0, (M ((M 1 2) + 1) a1))]) (st' := [(2, 1)]) rfl ?_
            refine wp_gf (pc' := 49) (t := 2) (v := (M 1 0)) rfl rfl (by decide) rfl rfl rfl ?_
            refine wp_run 2 (pc' := 51) (ls' := [(2, 1), (0, a1), (0, a2), (0, (M ((M 1 2) + 1) a1))]) (st' := [(0, a2), (0, (M ((M 1 2) + 1) a1)), (2, (M 1 0))]) rfl ?_
            refine wp_callv (pc' := 54) (as := [(2, (M 1 0)), (0, (M ((M 1 2) + 1) a1)), (0, a2)]) (rest := []) (ls1 := [(2, (M 1 0)), (0, (M ((M 1 2) + 1) a1)), (0, a2)]) rfl rfl rfl rfl (z_args_v rfl rfl rfl rfl (Nat.le_of_ble_eq_true rfl) rfl (by decide) (z_gl0 hg1)) rfl ?_
            exact l5 c1 c2 c3 c4 c5
          · refine wp_run 2 (pc' := 16) (ls' := [(2, (M 1 2)), (0, a1)]) (st' := [(0, 1)]) rfl ?_
            refine wp_ret rfl rfl ?_
            show wp xs _ mX9_drive 30 [(2, 1), (0, a1), (0, a2), (3, 0)] [(0, 1)] z_LL M _
            refine wp_run 2 (pc' := 34) (ls' := [(2, 1), (0, a1), (0, a2), (3, 0)]) (st' := [(0, (-1))]) rfl ?_
            exact wp_ret rfl rfl (l6 c1 c2 c3 c4 c5)
set_option maxRecDepth 20000 in
theorem gX9_drive_54 {xs : List Int} {d : Nat} {M : z_M} {P : Option z_V → z_L → z_M → Prop} {x1 : Int} {x2 : Int} {x3 : Int} {s0 : Int} (hF : z_fix M) (hh1 : z_her M (M 1 2))
    (l1 : (s0 = 1) → wp xs d mX4_keep 0 [(2, 47), (2, (M 1 2))] [] z_LL M (fun r L1 M1 => wp xs (d + 1) mX9_drive 71 [(2, 1), (0, x1), (0, x2), (0, x3)] (z_ol r ++ []) L1 M1 P))
    (l2 : (¬ (s0 = 1)) → P (some (0, (-1))) z_LL M) :
    wp xs (d + 1) mX9_drive 54 [(2, 1), (0, x1), (0, x2), (0, x3)] [(0, s0)] z_LL M P := by
  refine wp_run 1 (pc' := 55) (ls' := [(2, 1), (0, x1), (0, x2), (0, x3)]) (st' := [(0, 1), (0, s0)]) rfl ?_
  refine wp_if2 rfl rfl rfl (fun (c1 : s0 = 1) => ?_) (fun (c1 : ¬ (s0 = 1)) => ?_)
  · refine wp_run 1 (pc' := 61) (ls' := [(2, 1), (0, x1), (0, x2), (0, x3)]) (st' := [(2, 1)]) rfl ?_
    refine wp_gf (pc' := 64) (t := 2) (v := 47) rfl rfl (by decide) rfl rfl (fx_1_7 hF) ?_
    refine wp_run 1 (pc' := 65) (ls' := [(2, 1), (0, x1), (0, x2), (0, x3)]) (st' := [(2, 1), (2, 47)]) rfl ?_
    refine wp_gf (pc' := 68) (t := 2) (v := (M 1 2)) rfl rfl (by decide) rfl rfl rfl ?_
    refine wp_callv (pc' := 71) (as := [(2, 47), (2, (M 1 2))]) (rest := []) (ls1 := [(2, 47), (2, (M 1 2))]) rfl rfl rfl rfl rfl rfl ?_
    exact l1 c1
  · refine wp_run 1 (pc' := 59) (ls' := [(2, 1), (0, x1), (0, x2), (0, x3)]) (st' := [(0, (-1))]) rfl ?_
    exact wp_ret rfl rfl (l2 c1)
set_option maxRecDepth 20000 in
theorem gX9_drive_71 {xs : List Int} {d : Nat} {M : z_M} {P : Option z_V → z_L → z_M → Prop} {x1 : Int} {x2 : Int} {x3 : Int} (hh1 : z_her M (M 1 2))
    (b1 : 0 ≤ x1 ∧ x1 < 6)
    (l1 : P (some (0, x3)) z_LL (z_up M ((M 1 2) + 1) x1 x2)) :
    wp xs d mX9_drive 71 [(2, 1), (0, x1), (0, x2), (0, x3)] [] z_LL M P := by
  refine wp_run 1 (pc' := 72) (ls' := [(2, 1), (0, x1), (0, x2), (0, x3)]) (st' := [(2, 1)]) rfl ?_
  refine wp_gf (pc' := 75) (t := 2) (v := (M 1 2)) rfl rfl (by decide) rfl rfl rfl ?_
  refine wp_gf (pc' := 78) (t := 2) (v := ((M 1 2) + 1)) rfl rfl (by decide) rfl (z_hl0 hh1) (z_hf0 hh1) ?_
  refine wp_run 2 (pc' := 80) (ls' := [(2, 1), (0, x1), (0, x2), (0, x3)]) (st' := [(0, x2), (0, x1), (2, ((M 1 2) + 1))]) rfl ?_
  refine wp_iast (pc' := 81) rfl rfl (z_hl1 hh1) (b1) ?_
  refine wp_run 1 (pc' := 82) (ls' := [(2, 1), (0, x1), (0, x2), (0, x3)]) (st' := [(0, x3)]) rfl ?_
  exact wp_ret rfl rfl (l1)
set_option maxRecDepth 20000 in
theorem gX10_drive_0 {xs : List Int} {d : Nat} {M : z_M} {P : Option z_V → z_L → z_M → Prop} {a1 : Int} {a2 : Int} (hF : z_fix M) (hC : z_mc M) 
    (l1 : (¬ (0 ≤ a1 ∧ a1 < M 321 48)) → P (some (0, (-1))) z_LL M)
    (l2 : ((0 ≤ a1 ∧ a1 < M 321 48)) → (¬ (0 ≤ a2 ∧ a2 < M 321 46 * M 321 47)) → P (some (0, (-1))) z_LL M)
    (b1 : ((0 ≤ a1 ∧ a1 < M 321 48)) → ((0 ≤ a2 ∧ a2 < M 321 46 * M 321 47)) → 0 ≤ (z_w (6 + a1)) ∧ (z_w (6 + a1)) < 106)
    (l3 : ((0 ≤ a1 ∧ a1 < M 321 48)) → ((0 ≤ a2 ∧ a2 < M 321 46 * M 321 47)) → ((M 342 (z_w (6 + a1))) = 1) → P (some (0, (-1))) z_LL M)
    (b2 : ((0 ≤ a1 ∧ a1 < M 321 48)) → ((0 ≤ a2 ∧ a2 < M 321 46 * M 321 47)) → (¬ ((M 342 (z_w (6 + a1))) = 1)) → 0 ≤ a1 ∧ a1 < 106)
    (b3 : ((0 ≤ a1 ∧ a1 < M 321 48)) → ((0 ≤ a2 ∧ a2 < M 321 46 * M 321 47)) → (¬ ((M 342 (z_w (6 + a1))) = 1)) → (0 ≤ (M 342 a1) ∧ (M 342 a1) < 25 ∧ 0 ≤ a2 ∧ a2 < 25))
    (l4 : ((0 ≤ a1 ∧ a1 < M 321 48)) → ((0 ≤ a2 ∧ a2 < M 321 46 * M 321 47)) → (¬ ((M 342 (z_w (6 + a1))) = 1)) → ((z_far (M 321 46) (M 342 a1) a2) = 1) → wp xs (d + 1) mX10_act 0 [(2, 321), (3, 0)] [] z_LL M (fun r L1 M1 => wp xs (d + 2) mX10_drive 50 [(2, 321), (0, a1), (0, a2), (3, 0)] (z_ol r ++ []) L1 M1 P))
    (l5 : ((0 ≤ a1 ∧ a1 < M 321 48)) → ((0 ≤ a2 ∧ a2 < M 321 46 * M 321 47)) → (¬ ((M 342 (z_w (6 + a1))) = 1)) → (¬ ((z_far (M 321 46) (M 342 a1) a2) = 1)) → P (some (0, (-1))) z_LL M) :
    wp xs (d + 2) mX10_drive 0 [(2, 321), (0, a1), (0, a2), (3, 0)] [] z_LL M P := by
  refine wp_run 2 (pc' := 2) (ls' := [(2, 321), (0, a1), (0, a2), (3, 0)]) (st' := [(0, a1), (2, 321)]) rfl ?_
  refine wp_callv (pc' := 5) (as := [(2, 321), (0, a1)]) (rest := []) (ls1 := [(2, 321), (0, a1)]) rfl rfl rfl rfl rfl rfl ?_
  refine s_X10_isFlock hF hC ?_
  show wp xs _ mX10_drive 5 [(2, 321), (0, a1), (0, a2), (3, 0)] [(0, (z_b (0 ≤ a1 ∧ a1 < M 321 48)))] z_LL M _
  refine wp_be rfl rfl rfl (fun (c1 : ¬ (0 ≤ a1 ∧ a1 < M 321 48)) => ?_) (fun (c1 : (0 ≤ a1 ∧ a1 < M 321 48)) => ?_)
  · refine wp_run 1 (pc' := 45) (ls' := [(2, 321), (0, a1), (0, a2), (3, 0)]) (st' := [(0, (-1))]) rfl ?_
    exact wp_ret rfl rfl (l1 c1)
  · refine wp_run 2 (pc' := 10) (ls' := [(2, 321), (0, a1), (0, a2), (3, 0)]) (st' := [(0, a2), (2, 321)]) rfl ?_
    refine wp_callv (pc' := 13) (as := [(2, 321), (0, a2)]) (rest := []) (ls1 := [(2, 321), (0, a2)]) rfl rfl rfl rfl rfl rfl ?_
    refine s_X10_isCell hF hC ?_
    show wp xs _ mX10_drive 13 [(2, 321), (0, a1), (0, a2), (3, 0)] [(0, (z_b (0 ≤ a2 ∧ a2 < M 321 46 * M 321 47)))] z_LL M _
    refine wp_be rfl rfl rfl (fun (c2 : ¬ (0 ≤ a2 ∧ a2 < M 321 46 * M 321 47)) => ?_) (fun (c2 : (0 ≤ a2 ∧ a2 < M 321 46 * M 321 47)) => ?_)
    · refine wp_run 1 (pc' := 45) (ls' := [(2, 321), (0, a1), (0, a2), (3, 0)]) (st' := [(0, (-1))]) rfl ?_
      exact wp_ret rfl rfl (l2 c1 c2)
    · refine wp_run 1 (pc' := 17) (ls' := [(2, 321), (0, a1), (0, a2), (3, 0)]) (st' := [(2, 321)]) rfl ?_
      refine wp_gf (pc' := 20) (t := 2) (v := 342) rfl rfl (by decide) rfl rfl (fx_321_60 hF) ?_
      refine wp_run 3 (pc' := 24) (ls' := [(2, 321), (0, a1), (0, a2), (3, 0)]) (st' := [(0, (z_w (6 + a1))), (2, 342)]) rfl ?_
      refine wp_iald (pc' := 25) (v := (M 342 (z_w (6 + a1)))) rfl rfl rfl (b1 c1 c2) rfl ?_
      refine wp_run 1 (pc' := 26) (ls' := [(2, 321), (0, a1), (0, a2), (3, 0)]) (st' := [(0, 1), (0, (M 342 (z_w (6 + a1))))]) rfl ?_
      refine wp_if2 rfl rfl rfl (fun (c3 : (M 342 (z_w (6 + a1))) = 1) => ?_) (fun (c3 : ¬ ((M 342 (z_w (6 + a1))) = 1)) => ?_)
      · refine wp_run 1 (pc' := 45) (ls' := [(2, 321), (0, a1), (0, a2), (3, 0)]) (st' := [(0, (-1))]) rfl ?_
        exact wp_ret rfl rfl (l3 c1 c2 c3)
      · refine wp_run 2 (pc' := 31) (ls' := [(2, 321), (0, a1), (0, a2), (3, 0)]) (st' := [(2, 321), (2, 321)]) rfl ?_
        refine wp_gf (pc' := 34) (t := 2) (v := 342) rfl rfl (by decide) rfl rfl (fx_321_60 hF) ?_
        refine wp_run 1 (pc' := 35) (ls' := [(2, 321), (0, a1), (0, a2), (3, 0)]) (st' := [(0, a1), (2, 342), (2, 321)]) rfl ?_
        refine wp_iald (pc' := 36) (v := (M 342 a1)) rfl rfl rfl (b2 c1 c2 c3) rfl ?_
        refine wp_run 1 (pc' := 37) (ls' := [(2, 321), (0, a1), (0, a2), (3, 0)]) (st' := [(0, a2), (0, (M 342 a1)), (2, 321)]) rfl ?_
        refine wp_callv (pc' := 40) (as := [(2, 321), (0, (M 342 a1)), (0, a2)]) (rest := []) (ls1 := [(2, 321), (0, (M 342 a1)), (0, a2)]) rfl rfl rfl rfl rfl rfl ?_
        refine s_X10_farOf hF hC (b3 c1 c2 c3) ?_
        show wp xs _ mX10_drive 40 [(2, 321), (0, a1), (0, a2), (3, 0)] [(0, (z_far (M 321 46) (M 342 a1) a2))] z_LL M _
        refine wp_run 1 (pc' := 41) (ls' := [(2, 321), (0, a1), (0, a2), (3, 0)]) (st' := [(0, 1), (0, (z_far (M 321 46) (M 342 a1) a2))]) rfl ?_
        refine wp_if2 rfl rfl rfl (fun (c4 : (z_far (M 321 46) (M 342 a1) a2) = 1) => ?_) (fun (c4 : ¬ ((z_far (M 321 46) (M 342 a1) a2) = 1)) => ?_)
        · refine wp_run 1 (pc' := 47) (ls' := [(2, 321), (0, a1), (0, a2), (3, 0)]) (st' := [(2, 321)]) rfl ?_
          refine wp_callv (pc' := 50) (as := [(2, 321)]) (rest := []) (ls1 := [(2, 321), (3, 0)]) rfl rfl rfl rfl rfl rfl ?_
          exact l4 c1 c2 c3 c4
        · refine wp_run 1 (pc' := 45) (ls' := [(2, 321), (0, a1), (0, a2), (3, 0)]) (st' := [(0, (-1))]) rfl ?_
          exact wp_ret rfl rfl (l5 c1 c2 c3 c4)
set_option maxRecDepth 20000 in
theorem gX10_drive_50 {xs : List Int} {d : Nat} {M : z_M} {P : Option z_V → z_L → z_M → Prop} {x1 : Int} {x2 : Int} (hF : z_fix M) 
    (b1 : 0 ≤ x1 ∧ x1 < 106)
    (l1 : P (some (0, (M 342 x1))) z_LL (z_up M 342 x1 x2)) :
    wp xs d mX10_drive 50 [(2, 321), (0, x1), (0, x2), (3, 0)] [] z_LL M P := by
  refine wp_run 1 (pc' := 51) (ls' := [(2, 321), (0, x1), (0, x2), (3, 0)]) (st' := [(2, 321)]) rfl ?_
  refine wp_gf (pc' := 54) (t := 2) (v := 342) rfl rfl (by decide) rfl rfl (fx_321_60 hF) ?_
  refine wp_run 1 (pc' := 55) (ls' := [(2, 321), (0, x1), (0, x2), (3, 0)]) (st' := [(0, x1), (2, 342)]) rfl ?_
  refine wp_iald (pc' := 56) (v := (M 342 x1)) rfl rfl rfl (b1) rfl ?_
  refine wp_run 2 (pc' := 58) (ls' := [(2, 321), (0, x1), (0, x2), (0, (M 342 x1))]) (st' := [(2, 321)]) rfl ?_
  refine wp_gf (pc' := 61) (t := 2) (v := 342) rfl rfl (by decide) rfl rfl (fx_321_60 hF) ?_
  refine wp_run 2 (pc' := 63) (ls' := [(2, 321), (0, x1), (0, x2), (0, (M 342 x1))]) (st' := [(0, x2), (0, x1), (2, 342)]) rfl ?_
  refine wp_iast (pc' := 64) rfl rfl rfl (b1) ?_
  refine wp_run 1 (pc' := 65) (ls' := [(2, 321), (0, x1), (0, x2), (0, (M 342 x1))]) (st' := [(0, (M 342 x1))]) rfl ?_
  exact wp_ret rfl rfl (l1)
set_option maxRecDepth 20000 in
theorem gX9_breaks_0 {xs : List Int} {d : Nat} {M : z_M} {P : Option z_V → z_L → z_M → Prop} {a1 : Int} (hF : z_fix M) (hg1 : z_gor M (M 1 0)) (hh2 : z_her M (M 1 2))
    (l1 : (a1 < 0) → P (some (0, (-1))) z_LL M)
    (l2 : (¬ (a1 < 0)) → ((M (M 1 0) 12) ≤ a1) → P (some (0, (-1))) z_LL M)
    (b1 : (¬ (a1 < 0)) → (¬ ((M (M 1 0) 12) ≤ a1)) → 0 ≤ a1 ∧ a1 < 6)
    (l3 : (¬ (a1 < 0)) → (¬ ((M (M 1 0) 12) ≤ a1)) → ((M ((M 1 2) + 2) a1) ≠ (-1)) → wp xs d mX4_keep 0 [(2, 47), (2, (M 1 2))] [] z_LL M (fun r L1 M1 => wp xs (d + 1) mX9_breaks 37 [(2, 1), (0, a1)] (z_ol r ++ []) L1 M1 P))
    (l4 : (¬ (a1 < 0)) → (¬ ((M (M 1 0) 12) ≤ a1)) → (¬ ((M ((M 1 2) + 2) a1) ≠ (-1))) → P (some (0, (-1))) z_LL M) :
    wp xs (d + 1) mX9_breaks 0 [(2, 1), (0, a1)] [] z_LL M P := by
  refine wp_run 1 (pc' := 1) (ls' := [(2, 1), (0, a1)]) (st' := [(2, 1)]) rfl ?_
  refine wp_gf (pc' := 4) (t := 2) (v := (M 1 0)) rfl rfl (by decide) rfl rfl rfl ?_
  refine wp_run 1 (pc' := 5) (ls' := [(2, 1), (0, a1)]) (st' := [(0, a1), (2, (M 1 0))]) rfl ?_
  refine wp_callv (pc' := 8) (as := [(2, (M 1 0)), (0, a1)]) (rest := []) (ls1 := [(2, (M 1 0)), (0, a1)]) rfl rfl rfl rfl (z_args_v rfl rfl rfl rfl (Nat.le_of_ble_eq_true rfl) rfl (by decide) (z_gl0 hg1)) rfl ?_
  refine wp_run 1 (pc' := 1) (ls' := [(2, (M 1 0)), (0, a1)]) (st' := [(0, a1)]) rfl ?_
  refine wp_if1 rfl rfl rfl (fun (c1 : a1 < 0) => ?_) (fun (c1 : ¬ (a1 < 0)) => ?_)
  · refine wp_run 1 (pc' := 17) (ls' := [(2, (M 1 0)), (0, a1)]) (st' := [(0, 0)]) rfl ?_
    refine wp_ret rfl rfl ?_
    show wp xs _ mX9_breaks 8 [(2, 1), (0, a1)] [(0, 0)] z_LL M _
    refine wp_run 2 (pc' := 25) (ls' := [(2, 1), (0, a1)]) (st' := [(0, (-1))]) rfl ?_
    exact wp_ret rfl rfl (l1 c1)
  · refine wp_run 2 (pc' := 6) (ls' := [(2, (M 1 0)), (0, a1)]) (st' := [(2, (M 1 0)), (0, a1)]) rfl ?_
    refine wp_gf (pc' := 9) (t := 0) (v := (M (M 1 0) 12)) rfl rfl (by decide) rfl (z_gl0 hg1) rfl ?_
    refine wp_if2 rfl rfl rfl (fun (c2 : (M (M 1 0) 12) ≤ a1) => ?_) (fun (c2 : ¬ ((M (M 1 0) 12) ≤ a1)) => ?_)
    · refine wp_run 1 (pc' := 17) (ls' := [(2, (M 1 0)), (0, a1)]) (st' := [(0, 0)]) rfl ?_
      refine wp_ret rfl rfl ?_
      show wp xs _ mX9_breaks 8 [(2, 1), (0, a1)] [(0, 0)] z_LL M _
      refine wp_run 2 (pc' := 25) (ls' := [(2, 1), (0, a1)]) (st' := [(0, (-1))]) rfl ?_
      exact wp_ret rfl rfl (l2 c1 c2)
    · refine wp_run 2 (pc' := 17) (ls' := [(2, (M 1 0)), (0, a1)]) (st' := [(0, 1)]) rfl ?_
      refine wp_ret rfl rfl ?_
      show wp xs _ mX9_breaks 8 [(2, 1), (0, a1)] [(0, 1)] z_LL M _
      refine wp_run 2 (pc' := 12) (ls' := [(2, 1), (0, a1)]) (st' := [(2, 1)]) rfl ?_
      refine wp_gf (pc' := 15) (t := 2) (v := (M 1 2)) rfl rfl (by decide) rfl rfl rfl ?_
      refine wp_gf (pc' := 18) (t := 2) (v := ((M 1 2) + 2)) rfl rfl (by decide) rfl (z_hl0 hh2) (z_hf1 hh2) ?_
      refine wp_run 1 (pc' := 19) (ls' := [(2, 1), (0, a1)]) (st' := [(0, a1), (2, ((M 1 2) + 2))]) rfl ?_
      refine wp_iald (pc' := 20) (v := (M ((M 1 2) + 2) a1)) rfl rfl (z_hl2 hh2) (b1 c1 c2) rfl ?_
      refine wp_run 1 (pc' := 21) (ls' := [(2, 1), (0, a1)]) (st' := [(0, (-1)), (0, (M ((M 1 2) + 2) a1))]) rfl ?_
      refine wp_if2 rfl rfl rfl (fun (c3 : (M ((M 1 2) + 2) a1) ≠ (-1)) => ?_) (fun (c3 : ¬ ((M ((M 1 2) + 2) a1) ≠ (-1))) => ?_)
      · refine wp_run 1 (pc' := 27) (ls' := [(2, 1), (0, a1)]) (st' := [(2, 1)]) rfl ?_
        refine wp_gf (pc' := 30) (t := 2) (v := 47) rfl rfl (by decide) rfl rfl (fx_1_7 hF) ?_
        refine wp_run 1 (pc' := 31) (ls' := [(2, 1), (0, a1)]) (st' := [(2, 1), (2, 47)]) rfl ?_
        refine wp_gf (pc' := 34) (t := 2) (v := (M 1 2)) rfl rfl (by decide) rfl rfl rfl ?_
        refine wp_callv (pc' := 37) (as := [(2, 47), (2, (M 1 2))]) (rest := []) (ls1 := [(2, 47), (2, (M 1 2))]) rfl rfl rfl rfl rfl rfl ?_
        exact l3 c1 c2 c3
      · refine wp_run 1 (pc' := 25) (ls' := [(2, 1), (0, a1)]) (st' := [(0, (-1))]) rfl ?_
        exact wp_ret rfl rfl (l4 c1 c2 c3)
set_option maxRecDepth 20000 in
theorem gX9_breaks_37 {xs : List Int} {d : Nat} {M : z_M} {P : Option z_V → z_L → z_M → Prop} {x1 : Int} (hh1 : z_her M (M 1 2))
    (b1 : 0 ≤ x1 ∧ x1 < 6)
    (l1 : ((M ((M 1 2) + 2) x1) = (-1)) → P (some (0, (M ((M 1 2) + 2) x1))) z_LL M)
    (b2 : (¬ ((M ((M 1 2) + 2) x1) = (-1))) → ((M ((M 1 2) + 2) x1) ≤ x1) → 0 ≤ (z_w ((z_w ((M ((M 1 2) + 2) x1) * 6)) + x1)) ∧ (z_w ((z_w ((M ((M 1 2) + 2) x1) * 6)) + x1)) < 36)
    (b3 : (¬ ((M ((M 1 2) + 2) x1) = (-1))) → ((M ((M 1 2) + 2) x1) ≤ x1) → 0 ≤ (M ((M 1 2) + 2) x1) ∧ (M ((M 1 2) + 2) x1) < 6)
    (l2 : (¬ ((M ((M 1 2) + 2) x1) = (-1))) → ((M ((M 1 2) + 2) x1) ≤ x1) → P (some (0, (M ((M 1 2) + 2) x1))) z_LL (z_up (z_up (z_up M ((M 1 2) + 5) (z_w ((z_w ((M ((M 1 2) + 2) x1) * 6)) + x1)) 0) ((M 1 2) + 2) x1 (-1)) ((M 1 2) + 2) (M ((M 1 2) + 2) x1) (-1)))
    (b4 : (¬ ((M ((M 1 2) + 2) x1) = (-1))) → (¬ ((M ((M 1 2) + 2) x1) ≤ x1)) → 0 ≤ (z_w ((z_w (x1 * 6)) + (M ((M 1 2) + 2) x1))) ∧ (z_w ((z_w (x1 * 6)) + (M ((M 1 2) + 2) x1))) < 36)
    (b5 : (¬ ((M ((M 1 2) + 2) x1) = (-1))) → (¬ ((M ((M 1 2) + 2) x1) ≤ x1)) → 0 ≤ (M ((M 1 2) + 2) x1) ∧ (M ((M 1 2) + 2) x1) < 6)
    (l3 : (¬ ((M ((M 1 2) + 2) x1) = (-1))) → (¬ ((M ((M 1 2) + 2) x1) ≤ x1)) → P (some (0, (M ((M 1 2) + 2) x1))) z_LL (z_up (z_up (z_up M ((M 1 2) + 5) (z_w ((z_w (x1 * 6)) + (M ((M 1 2) + 2) x1))) 0) ((M 1 2) + 2) x1 (-1)) ((M 1 2) + 2) (M ((M 1 2) + 2) x1) (-1))) :
    wp xs (d + 2) mX9_breaks 37 [(2, 1), (0, x1)] [] z_LL M P := by
  refine wp_run 1 (pc' := 38) (ls' := [(2, 1), (0, x1)]) (st' := [(2, 1)]) rfl ?_
  refine wp_gf (pc' := 41) (t := 2) (v := (M 1 2)) rfl rfl (by decide) rfl rfl rfl ?_
  refine wp_run 1 (pc' := 42) (ls' := [(2, 1), (0, x1)]) (st' := [(0, x1), (2, (M 1 2))]) rfl ?_
  refine wp_callv (pc' := 45) (as := [(2, (M 1 2)), (0, x1)]) (rest := []) (ls1 := [(2, (M 1 2)), (0, x1), (3, 0)]) rfl rfl rfl rfl (z_args_v rfl rfl rfl rfl (Nat.le_of_ble_eq_true rfl) rfl (by decide) (z_hl0 hh1)) rfl ?_
  refine wp_run 1 (pc' := 1) (ls' := [(2, (M 1 2)), (0, x1), (3, 0)]) (st' := [(2, (M 1 2))]) rfl ?_
  refine wp_gf (pc' := 4) (t := 2) (v := ((M 1 2) + 2)) rfl rfl (by decide) rfl (z_hl0 hh1) (z_hf1 hh1) ?_
  refine wp_run 1 (pc' := 5) (ls' := [(2, (M 1 2)), (0, x1), (3, 0)]) (st' := [(0, x1), (2, ((M 1 2) + 2))]) rfl ?_
  refine wp_iald (pc' := 6) (v := (M ((M 1 2) + 2) x1)) rfl rfl (z_hl2 hh1) (b1) rfl ?_
  refine wp_run 3 (pc' := 9) (ls' := [(2, (M 1 2)), (0, x1), (0, (M ((M 1 2) + 2) x1))]) (st' := [(0, (-1)), (0, (M ((M 1 2) + 2) x1))]) rfl ?_
  refine wp_if2 rfl rfl rfl (fun (c1 : (M ((M 1 2) + 2) x1) = (-1)) => ?_) (fun (c1 : ¬ ((M ((M 1 2) + 2) x1) = (-1))) => ?_)
  · refine wp_run 1 (pc' := 38) (ls' := [(2, (M 1 2)), (0, x1), (0, (M ((M 1 2) + 2) x1))]) (st' := [(0, (M ((M 1 2) + 2) x1))]) rfl ?_
    refine wp_ret rfl rfl ?_
    show wp xs _ mX9_breaks 45 [(2, 1), (0, x1)] [(0, (M ((M 1 2) + 2) x1))] z_LL M _
    exact wp_ret rfl rfl (l1 c1)
  · refine wp_run 1 (pc' := 13) (ls' := [(2, (M 1 2)), (0, x1), (0, (M ((M 1 2) + 2) x1))]) (st' := [(2, (M 1 2))]) rfl ?_
    refine wp_gf (pc' := 16) (t := 2) (v := ((M 1 2) + 5)) rfl rfl (by decide) rfl (z_hl0 hh1) (z_hf4 hh1) ?_
    refine wp_run 2 (pc' := 18) (ls' := [(2, (M 1 2)), (0, x1), (0, (M ((M 1 2) + 2) x1))]) (st' := [(0, (M ((M 1 2) + 2) x1)), (0, x1), (2, ((M 1 2) + 5))]) rfl ?_
    refine wp_callv (pc' := 21) (as := [(0, x1), (0, (M ((M 1 2) + 2) x1))]) (rest := [(2, ((M 1 2) + 5))]) (ls1 := [(0, x1), (0, (M ((M 1 2) + 2) x1))]) rfl rfl rfl rfl rfl rfl ?_
    refine wp_run 2 (pc' := 2) (ls' := [(0, x1), (0, (M ((M 1 2) + 2) x1))]) (st' := [(0, (M ((M 1 2) + 2) x1)), (0, x1)]) rfl ?_
    refine wp_if2 rfl rfl rfl (fun (c2 : (M ((M 1 2) + 2) x1) ≤ x1) => ?_) (fun (c2 : ¬ ((M ((M 1 2) + 2) x1) ≤ x1)) => ?_)
    · refine wp_run 5 (pc' := 20) (ls' := [(0, x1), (0, (M ((M 1 2) + 2) x1))]) (st' := [(0, (z_w ((z_w ((M ((M 1 2) + 2) x1) * 6)) + x1)))]) rfl ?_
      refine wp_ret rfl rfl ?_
      show wp xs _ mX2_part 21 [(2, (M 1 2)), (0, x1), (0, (M ((M 1 2) + 2) x1))] [(0, (z_w ((z_w ((M ((M 1 2) + 2) x1) * 6)) + x1))), (2, ((M 1 2) + 5))] z_LL M _
      refine wp_run 1 (pc' := 22) (ls' := [(2, (M 1 2)), (0, x1), (0, (M ((M 1 2) + 2) x1))]) (st' := [(0, 0), (0, (z_w ((z_w ((M ((M 1 2) + 2) x1) * 6)) + x1))), (2, ((M 1 2) + 5))]) rfl ?_
      refine wp_iast (pc' := 23) rfl rfl (z_hl5 hh1) (b2 c1 c2) ?_
      refine wp_run 1 (pc' := 24) (ls' := [(2, (M 1 2)), (0, x1), (0, (M ((M 1 2) + 2) x1))]) (st' := [(2, (M 1 2))]) rfl ?_
      refine wp_gf (pc' := 27) (t := 2) (v := ((M 1 2) + 2)) rfl rfl (by decide) rfl (z_hl0 hh1) (z_upq (by have := z_hr hh1; have := z_hr hh1; omega) (z_hf1 hh1)) ?_
      refine wp_run 2 (pc' := 29) (ls' := [(2, (M 1 2)), (0, x1), (0, (M ((M 1 2) + 2) x1))]) (st' := [(0, (-1)), (0, x1), (2, ((M 1 2) + 2))]) rfl ?_
      refine wp_iast (pc' := 30) rfl rfl (z_hl2 hh1) (b1) ?_
      refine wp_run 1 (pc' := 31) (ls' := [(2, (M 1 2)), (0, x1), (0, (M ((M 1 2) + 2) x1))]) (st' := [(2, (M 1 2))]) rfl ?_
      refine wp_gf (pc' := 34) (t := 2) (v := ((M 1 2) + 2)) rfl rfl (by decide) rfl (z_hl0 hh1) (z_upq (by have := z_hr hh1; have := z_hr hh1; omega) (z_upq (by have := z_hr hh1; have := z_hr hh1; omega) (z_hf1 hh1))) ?_
      refine wp_run 2 (pc' := 36) (ls' := [(2, (M 1 2)), (0, x1), (0, (M ((M 1 2) + 2) x1))]) (st' := [(0, (-1)), (0, (M ((M 1 2) + 2) x1)), (2, ((M 1 2) + 2))]) rfl ?_
      refine wp_iast (pc' := 37) rfl rfl (z_hl2 hh1) (b3 c1 c2) ?_
      refine wp_run 1 (pc' := 38) (ls' := [(2, (M 1 2)), (0, x1), (0, (M ((M 1 2) + 2) x1))]) (st' := [(0, (M ((M 1 2) + 2) x1))]) rfl ?_
      refine wp_ret rfl rfl ?_
      show wp xs _ mX9_breaks 45 [(2, 1), (0, x1)] [(0, (M ((M 1 2) + 2) x1))] z_LL (z_up (z_up (z_up M ((M 1 2) + 5) (z_w ((z_w ((M ((M 1 2) + 2) x1) * 6)) + x1)) 0) ((M 1 2) + 2) x1 (-1)) ((M 1 2) + 2) (M ((M 1 2) + 2) x1) (-1)) _
      exact wp_ret rfl rfl (l2 c1 c2)
    · refine wp_run 6 (pc' := 20) (ls' := [(0, x1), (0, (M ((M 1 2) + 2) x1))]) (st' := [(0, (z_w ((z_w (x1 * 6)) + (M ((M 1 2) + 2) x1))))]) rfl ?_
      refine wp_ret rfl rfl ?_
      show wp xs _ mX2_part 21 [(2, (M 1 2)), (0, x1), (0, (M ((M 1 2) + 2) x1))] [(0, (z_w ((z_w (x1 * 6)) + (M ((M 1 2) + 2) x1)))), (2, ((M 1 2) + 5))] z_LL M _
      refine wp_run 1 (pc' := 22) (ls' := [(2, (M 1 2)), (0, x1), (0, (M ((M 1 2) + 2) x1))]) (st' := [(0, 0), (0, (z_w ((z_w (x1 * 6)) + (M ((M 1 2) + 2) x1)))), (2, ((M 1 2) + 5))]) rfl ?_
      refine wp_iast (pc' := 23) rfl rfl (z_hl5 hh1) (b4 c1 c2) ?_
      refine wp_run 1 (pc' := 24) (ls' := [(2, (M 1 2)), (0, x1), (0, (M ((M 1 2) + 2) x1))]) (st' := [(2, (M 1 2))]) rfl ?_
      refine wp_gf (pc' := 27) (t := 2) (v := ((M 1 2) + 2)) rfl rfl (by decide) rfl (z_hl0 hh1) (z_upq (by have := z_hr hh1; have := z_hr hh1; omega) (z_hf1 hh1)) ?_
      refine wp_run 2 (pc' := 29) (ls' := [(2, (M 1 2)), (0, x1), (0, (M ((M 1 2) + 2) x1))]) (st' := [(0, (-1)), (0, x1), (2, ((M 1 2) + 2))]) rfl ?_
      refine wp_iast (pc' := 30) rfl rfl (z_hl2 hh1) (b1) ?_
      refine wp_run 1 (pc' := 31) (ls' := [(2, (M 1 2)), (0, x1), (0, (M ((M 1 2) + 2) x1))]) (st' := [(2, (M 1 2))]) rfl ?_
      refine wp_gf (pc' := 34) (t := 2) (v := ((M 1 2) + 2)) rfl rfl (by decide) rfl (z_hl0 hh1) (z_upq (by have := z_hr hh1; have := z_hr hh1; omega) (z_upq (by have := z_hr hh1; have := z_hr hh1; omega) (z_hf1 hh1))) ?_
      refine wp_run 2 (pc' := 36) (ls' := [(2, (M 1 2)), (0, x1), (0, (M ((M 1 2) + 2) x1))]) (st' := [(0, (-1)), (0, (M ((M 1 2) + 2) x1)), (2, ((M 1 2) + 2))]) rfl ?_
      refine wp_iast (pc' := 37) rfl rfl (z_hl2 hh1) (b5 c1 c2) ?_
      refine wp_run 1 (pc' := 38) (ls' := [(2, (M 1 2)), (0, x1), (0, (M ((M 1 2) + 2) x1))]) (st' := [(0, (M ((M 1 2) + 2) x1))]) rfl ?_
      refine wp_ret rfl rfl ?_
      show wp xs _ mX9_breaks 45 [(2, 1), (0, x1)] [(0, (M ((M 1 2) + 2) x1))] z_LL (z_up (z_up (z_up M ((M 1 2) + 5) (z_w ((z_w (x1 * 6)) + (M ((M 1 2) + 2) x1))) 0) ((M 1 2) + 2) x1 (-1)) ((M 1 2) + 2) (M ((M 1 2) + 2) x1) (-1)) _
      exact wp_ret rfl rfl (l3 c1 c2)
set_option maxRecDepth 20000 in
theorem gX10_breaks_0 {xs : List Int} {d : Nat} {M : z_M} {P : Option z_V → z_L → z_M → Prop} {a1 : Int} (hF : z_fix M) (hC : z_mc M) 
    (l1 : (¬ (0 ≤ a1 ∧ a1 < M 321 48)) → P (some (0, (-1))) z_LL M)
    (b1 : ((0 ≤ a1 ∧ a1 < M 321 48)) → 0 ≤ (z_w (12 + a1)) ∧ (z_w (12 + a1)) < 106)
    (l2 : ((0 ≤ a1 ∧ a1 < M 321 48)) → (0 ≤ (M 342 (z_w (12 + a1)))) → wp xs (d + 1) mX10_act 0 [(2, 321), (3, 0)] [] z_LL M (fun r L1 M1 => wp xs (d + 2) mX10_breaks 26 [(2, 321), (0, a1), (3, 0)] (z_ol r ++ []) L1 M1 P))
    (l3 : ((0 ≤ a1 ∧ a1 < M 321 48)) → (¬ (0 ≤ (M 342 (z_w (12 + a1))))) → P (some (0, (-1))) z_LL M) :
    wp xs (d + 2) mX10_breaks 0 [(2, 321), (0, a1), (3, 0)] [] z_LL M P := by
  refine wp_run 2 (pc' := 2) (ls' := [(2, 321), (0, a1), (3, 0)]) (st' := [(0, a1), (2, 321)]) rfl ?_
  refine wp_callv (pc' := 5) (as := [(2, 321), (0, a1)]) (rest := []) (ls1 := [(2, 321), (0, a1)]) rfl rfl rfl rfl rfl rfl ?_
  refine s_X10_isFlock hF hC ?_
  show wp xs _ mX10_breaks 5 [(2, 321), (0, a1), (3, 0)] [(0, (z_b (0 ≤ a1 ∧ a1 < M 321 48)))] z_LL M _
  refine wp_be rfl rfl rfl (fun (c1 : ¬ (0 ≤ a1 ∧ a1 < M 321 48)) => ?_) (fun (c1 : (0 ≤ a1 ∧ a1 < M 321 48)) => ?_)
  · refine wp_run 1 (pc' := 21) (ls' := [(2, 321), (0, a1), (3, 0)]) (st' := [(0, (-1))]) rfl ?_
    exact wp_ret rfl rfl (l1 c1)
  · refine wp_run 1 (pc' := 9) (ls' := [(2, 321), (0, a1), (3, 0)]) (st' := [(2, 321)]) rfl ?_
    refine wp_gf (pc' := 12) (t := 2) (v := 342) rfl rfl (by decide) rfl rfl (fx_321_60 hF) ?_
    refine wp_run 3 (pc' := 16) (ls' := [(2, 321), (0, a1), (3, 0)]) (st' := [(0, (z_w (12 + a1))), (2, 342)]) rfl ?_
    refine wp_iald (pc' := 17) (v := (M 342 (z_w (12 + a1)))) rfl rfl rfl (b1 c1) rfl ?_
    refine wp_if1 rfl rfl rfl (fun (c2 : 0 ≤ (M 342 (z_w (12 + a1)))) => ?_) (fun (c2 : ¬ (0 ≤ (M 342 (z_w (12 + a1))))) => ?_)
    · refine wp_run 1 (pc' := 23) (ls' := [(2, 321), (0, a1), (3, 0)]) (st' := [(2, 321)]) rfl ?_
      refine wp_callv (pc' := 26) (as := [(2, 321)]) (rest := []) (ls1 := [(2, 321), (3, 0)]) rfl rfl rfl rfl rfl rfl ?_
      exact l2 c1 c2
    · refine wp_run 1 (pc' := 21) (ls' := [(2, 321), (0, a1), (3, 0)]) (st' := [(0, (-1))]) rfl ?_
      exact wp_ret rfl rfl (l3 c1 c2)
set_option maxRecDepth 20000 in
theorem gX10_breaks_26 {xs : List Int} {d : Nat} {M : z_M} {P : Option z_V → z_L → z_M → Prop} {x1 : Int} (hF : z_fix M) 
    (b1 : 0 ≤ (z_w (12 + x1)) ∧ (z_w (12 + x1)) < 106)
    (b2 : 0 ≤ (z_w (12 + (M 342 (z_w (12 + x1))))) ∧ (z_w (12 + (M 342 (z_w (12 + x1))))) < 106)
    (b3 : 0 ≤ (z_w ((z_w (18 + (z_w (6 * x1)))) + (M 342 (z_w (12 + x1))))) ∧ (z_w ((z_w (18 + (z_w (6 * x1)))) + (M 342 (z_w (12 + x1))))) < 106)
    (b4 : 0 ≤ (z_w ((z_w (18 + (z_w (6 * (M 342 (z_w (12 + x1))))))) + x1)) ∧ (z_w ((z_w (18 + (z_w (6 * (M 342 (z_w (12 + x1))))))) + x1)) < 106)
    (l1 : P (some (0, (M 342 (z_w (12 + x1))))) z_LL (z_up (z_up (z_up (z_up M 342 (z_w (12 + x1)) (-1)) 342 (z_w (12 + (M 342 (z_w (12 + x1))))) (-1)) 342 (z_w ((z_w (18 + (z_w (6 * x1)))) + (M 342 (z_w (12 + x1))))) 0) 342 (z_w ((z_w (18 + (z_w (6 * (M 342 (z_w (12 + x1))))))) + x1)) 0)) :
    wp xs d mX10_breaks 26 [(2, 321), (0, x1), (3, 0)] [] z_LL M P := by
  refine wp_run 1 (pc' := 27) (ls' := [(2, 321), (0, x1), (3, 0)]) (st' := [(2, 321)]) rfl ?_
  refine wp_gf (pc' := 30) (t := 2) (v := 342) rfl rfl (by decide) rfl rfl (fx_321_60 hF) ?_
  refine wp_run 3 (pc' := 34) (ls' := [(2, 321), (0, x1), (3, 0)]) (st' := [(0, (z_w (12 + x1))), (2, 342)]) rfl ?_
  refine wp_iald (pc' := 35) (v := (M 342 (z_w (12 + x1)))) rfl rfl rfl (b1) rfl ?_
  refine wp_run 2 (pc' := 37) (ls' := [(2, 321), (0, x1), (0, (M 342 (z_w (12 + x1))))]) (st' := [(2, 321)]) rfl ?_
  refine wp_gf (pc' := 40) (t := 2) (v := 342) rfl rfl (by decide) rfl rfl (fx_321_60 hF) ?_
  refine wp_run 4 (pc' := 45) (ls' := [(2, 321), (0, x1), (0, (M 342 (z_w (12 + x1))))]) (st' := [(0, (-1)), (0, (z_w (12 + x1))), (2, 342)]) rfl ?_
  refine wp_iast (pc' := 46) rfl rfl rfl (b1) ?_
  refine wp_run 1 (pc' := 47) (ls' := [(2, 321), (0, x1), (0, (M 342 (z_w (12 + x1))))]) (st' := [(2, 321)]) rfl ?_
  refine wp_gf (pc' := 50) (t := 2) (v := 342) rfl rfl (by decide) rfl rfl (z_upq (by decide) (fx_321_60 hF)) ?_
  refine wp_run 4 (pc' := 55) (ls' := [(2, 321), (0, x1), (0, (M 342 (z_w (12 + x1))))]) (st' := [(0, (-1)), (0, (z_w (12 + (M 342 (z_w (12 + x1)))))), (2, 342)]) rfl ?_
  refine wp_iast (pc' := 56) rfl rfl rfl (b2) ?_
  refine wp_run 1 (pc' := 57) (ls' := [(2, 321), (0, x1), (0, (M 342 (z_w (12 + x1))))]) (st' := [(2, 321)]) rfl ?_
  refine wp_gf (pc' := 60) (t := 2) (v := 342) rfl rfl (by decide) rfl rfl (z_upq (by decide) (z_upq (by decide) (fx_321_60 hF))) ?_
  refine wp_run 8 (pc' := 70) (ls' := [(2, 321), (0, x1), (0, (M 342 (z_w (12 + x1))))]) (st' := [(0, 0), (0, (z_w ((z_w (18 + (z_w (6 * x1)))) + (M 342 (z_w (12 + x1)))))), (2, 342)]) rfl ?_
  refine wp_iast (pc' := 71) rfl rfl rfl (b3) ?_
  refine wp_run 1 (pc' := 72) (ls' := [(2, 321), (0, x1), (0, (M 342 (z_w (12 + x1))))]) (st' := [(2, 321)]) rfl ?_
  refine wp_gf (pc' := 75) (t := 2) (v := 342) rfl rfl (by decide) rfl rfl (z_upq (by decide) (z_upq (by decide) (z_upq (by decide) (fx_321_60 hF)))) ?_
  refine wp_run 8 (pc' := 85) (ls' := [(2, 321), (0, x1), (0, (M 342 (z_w (12 + x1))))]) (st' := [(0, 0), (0, (z_w ((z_w (18 + (z_w (6 * (M 342 (z_w (12 + x1))))))) + x1))), (2, 342)]) rfl ?_
  refine wp_iast (pc' := 86) rfl rfl rfl (b4) ?_
  refine wp_run 1 (pc' := 87) (ls' := [(2, 321), (0, x1), (0, (M 342 (z_w (12 + x1))))]) (st' := [(0, (M 342 (z_w (12 + x1))))]) rfl ?_
  exact wp_ret rfl rfl (l1)
set_option maxRecDepth 20000 in
theorem gX9_day_0 {xs : List Int} {d : Nat} {M : z_M} {P : Option z_V → z_L → z_M → Prop} (hF : z_fix M) (hh1 : z_her M (M 1 2))
    (l1 : ((M (M 1 2) 6) < 999) → wp xs d mX4_keep 0 [(2, 47), (2, (M 1 2))] [] z_LL M (fun r L1 M1 => wp xs (d + 1) mX9_day 26 [(2, 1)] (z_ol r ++ []) L1 M1 P))
    (l2 : (¬ ((M (M 1 2) 6) < 999)) → P (some (0, (-1))) z_LL M) :
    wp xs (d + 1) mX9_day 0 [(2, 1)] [] z_LL M P := by
  refine wp_run 1 (pc' := 1) (ls' := [(2, 1)]) (st' := [(2, 1)]) rfl ?_
  refine wp_gf (pc' := 4) (t := 2) (v := (M 1 2)) rfl rfl (by decide) rfl rfl rfl ?_
  refine wp_gf (pc' := 7) (t := 0) (v := (M (M 1 2) 6)) rfl rfl (by decide) rfl (z_hl0 hh1) rfl ?_
  refine wp_run 1 (pc' := 10) (ls' := [(2, 1)]) (st' := [(0, 999), (0, (M (M 1 2) 6))]) rfl ?_
  refine wp_if2 rfl rfl rfl (fun (c1 : (M (M 1 2) 6) < 999) => ?_) (fun (c1 : ¬ ((M (M 1 2) 6) < 999)) => ?_)
  · refine wp_run 1 (pc' := 16) (ls' := [(2, 1)]) (st' := [(2, 1)]) rfl ?_
    refine wp_gf (pc' := 19) (t := 2) (v := 47) rfl rfl (by decide) rfl rfl (fx_1_7 hF) ?_
    refine wp_run 1 (pc' := 20) (ls' := [(2, 1)]) (st' := [(2, 1), (2, 47)]) rfl ?_
    refine wp_gf (pc' := 23) (t := 2) (v := (M 1 2)) rfl rfl (by decide) rfl rfl rfl ?_
    refine wp_callv (pc' := 26) (as := [(2, 47), (2, (M 1 2))]) (rest := []) (ls1 := [(2, 47), (2, (M 1 2))]) rfl rfl rfl rfl rfl rfl ?_
    exact l1 c1
  · refine wp_run 1 (pc' := 14) (ls' := [(2, 1)]) (st' := [(0, (-1))]) rfl ?_
    exact wp_ret rfl rfl (l2 c1)
set_option maxRecDepth 20000 in
theorem gX9_day_26 {xs : List Int} {d : Nat} {M : z_M} {P : Option z_V → z_L → z_M → Prop} (hF : z_fix M) (hh1 : z_her M (M 1 2)) (hg2 : z_gor M (M 1 0))
    (l1 : wp xs d mX8_pass 0 [(2, 34), (2, (M 1 2)), (0, (M (M 1 0) 18)), (3, 0)] [] z_LL M (fun r L1 M1 => wp xs (d + 1) mX9_day 44 [(2, 1)] (z_ol r ++ []) L1 M1 P)) :
    wp xs (d + 1) mX9_day 26 [(2, 1)] [] z_LL M P := by
  refine wp_run 1 (pc' := 27) (ls' := [(2, 1)]) (st' := [(2, 1)]) rfl ?_
  refine wp_gf (pc' := 30) (t := 2) (v := 34) rfl rfl (by decide) rfl rfl (fx_1_5 hF) ?_
  refine wp_run 1 (pc' := 31) (ls' := [(2, 1)]) (st' := [(2, 1), (2, 34)]) rfl ?_
  refine wp_gf (pc' := 34) (t := 2) (v := (M 1 2)) rfl rfl (by decide) rfl rfl rfl ?_
  refine wp_run 1 (pc' := 35) (ls' := [(2, 1)]) (st' := [(2, 1), (2, (M 1 2)), (2, 34)]) rfl ?_
  refine wp_gf (pc' := 38) (t := 2) (v := (M 1 0)) rfl rfl (by decide) rfl rfl rfl ?_
  refine wp_gf (pc' := 41) (t := 0) (v := (M (M 1 0) 18)) rfl rfl (by decide) rfl (z_gl0 hg2) rfl ?_
  refine wp_callv (pc' := 44) (as := [(2, 34), (2, (M 1 2)), (0, (M (M 1 0) 18))]) (rest := []) (ls1 := [(2, 34), (2, (M 1 2)), (0, (M (M 1 0) 18)), (3, 0)]) rfl rfl rfl rfl rfl rfl ?_
  exact l1
set_option maxRecDepth 20000 in
theorem gX9_day_44 {xs : List Int} {d : Nat} {M : z_M} {P : Option z_V → z_L → z_M → Prop} {s0 : Int} 
    (l1 : P (some (0, s0)) z_LL M) :
    wp xs d mX9_day 44 [(2, 1)] [(0, s0)] z_LL M P := by
  exact wp_ret rfl rfl (l1)
set_option maxRecDepth 20000 in
theorem gX10_day_0 {xs : List Int} {d : Nat} {M : z_M} {P : Option z_V → z_L → z_M → Prop} (hF : z_fix M) 
    (l1 : ((M 342 104) ≠ 999) → wp xs d mX10_act 0 [(2, 321), (3, 0)] [] z_LL M (fun r L1 M1 => wp xs (d + 1) mX10_day 19 [(2, 321), (3, 0), (3, 0)] (z_ol r ++ []) L1 M1 P))
    (l2 : (¬ ((M 342 104) ≠ 999)) → P (some (0, (-1))) z_LL M) :
    wp xs (d + 1) mX10_day 0 [(2, 321), (3, 0), (3, 0)] [] z_LL M P := by
  refine wp_run 1 (pc' := 1) (ls' := [(2, 321), (3, 0), (3, 0)]) (st' := [(2, 321)]) rfl ?_
  refine wp_gf (pc' := 4) (t := 2) (v := 342) rfl rfl (by decide) rfl rfl (fx_321_60 hF) ?_
  refine wp_run 1 (pc' := 6) (ls' := [(2, 321), (3, 0), (3, 0)]) (st' := [(0, 104), (2, 342)]) rfl ?_
  refine wp_iald (pc' := 7) (v := (M 342 104)) rfl rfl rfl ⟨by decide, by decide⟩ rfl ?_
  refine wp_run 1 (pc' := 10) (ls' := [(2, 321), (3, 0), (3, 0)]) (st' := [(0, 999), (0, (M 342 104))]) rfl ?_
  refine wp_if2 rfl rfl rfl (fun (c1 : (M 342 104) ≠ 999) => ?_) (fun (c1 : ¬ ((M 342 104) ≠ 999)) => ?_)
  · refine wp_run 1 (pc' := 16) (ls' := [(2, 321), (3, 0), (3, 0)]) (st' := [(2, 321)]) rfl ?_
    refine wp_callv (pc' := 19) (as := [(2, 321)]) (rest := []) (ls1 := [(2, 321), (3, 0)]) rfl rfl rfl rfl rfl rfl ?_
    exact l1 c1
  · refine wp_run 1 (pc' := 14) (ls' := [(2, 321), (3, 0), (3, 0)]) (st' := [(0, (-1))]) rfl ?_
    exact wp_ret rfl rfl (l2 c1)
set_option maxRecDepth 20000 in
theorem gX10_day_19 {xs : List Int} {d : Nat} {M : z_M} {P : Option z_V → z_L → z_M → Prop} 
    (l1 : wp xs d mX10_load 0 [(2, 321), (3, 0)] [] z_LL M (fun r L1 M1 => wp xs (d + 1) mX10_day 23 [(2, 321), (3, 0), (3, 0)] (z_ol r ++ []) L1 M1 P)) :
    wp xs (d + 1) mX10_day 19 [(2, 321), (3, 0), (3, 0)] [] z_LL M P := by
  refine wp_run 1 (pc' := 20) (ls' := [(2, 321), (3, 0), (3, 0)]) (st' := [(2, 321)]) rfl ?_
  refine wp_callv (pc' := 23) (as := [(2, 321)]) (rest := []) (ls1 := [(2, 321), (3, 0)]) rfl rfl rfl rfl rfl rfl ?_
  exact l1
set_option maxRecDepth 20000 in
theorem gX10_day_23 {xs : List Int} {d : Nat} {M : z_M} {P : Option z_V → z_L → z_M → Prop} 
    (l1 : wp xs d mX10_goDay 0 [(2, 321), (0, (M 321 52)), (3, 0), (3, 0)] [] z_LL M (fun r L1 M1 => wp xs (d + 1) mX10_day 31 [(2, 321), (3, 0), (3, 0)] (z_ol r ++ []) L1 M1 P)) :
    wp xs (d + 1) mX10_day 23 [(2, 321), (3, 0), (3, 0)] [] z_LL M P := by
  refine wp_run 2 (pc' := 25) (ls' := [(2, 321), (3, 0), (3, 0)]) (st' := [(2, 321), (2, 321)]) rfl ?_
  refine wp_gf (pc' := 28) (t := 0) (v := (M 321 52)) rfl rfl (by decide) rfl rfl rfl ?_
  refine wp_callv (pc' := 31) (as := [(2, 321), (0, (M 321 52))]) (rest := []) (ls1 := [(2, 321), (0, (M 321 52)), (3, 0), (3, 0)]) rfl rfl rfl rfl rfl rfl ?_
  exact l1
set_option maxRecDepth 20000 in
theorem gX10_day_31 {xs : List Int} {d : Nat} {M : z_M} {P : Option z_V → z_L → z_M → Prop} {s0 : Int} 
    (l1 : wp xs d mX10_day 34 [(2, 321), (0, s0), (0, 0)] [] z_LL M P) :
    wp xs d mX10_day 31 [(2, 321), (3, 0), (3, 0)] [(0, s0)] z_LL M P := by
  refine wp_run 3 (pc' := 34) (ls' := [(2, 321), (0, s0), (0, 0)]) (st' := []) rfl ?_
  exact l1
set_option maxRecDepth 20000 in
theorem gX10_day_34 {xs : List Int} {d : Nat} {M : z_M} {P : Option z_V → z_L → z_M → Prop} {x1 : Int} {x2 : Int} (hF : z_fix M) 
    (l1 : (106 ≤ x2) → P (some (0, x1)) z_LL M)
    (b1 : (¬ (106 ≤ x2)) → 0 ≤ x2 ∧ x2 < 106)
    (l2 : (¬ (106 ≤ x2)) → wp xs d mX10_day 34 [(2, 321), (0, x1), (0, (z_w (x2 + 1)))] [] z_LL (z_up M 342 x2 (M 343 x2)) P) :
    wp xs d mX10_day 34 [(2, 321), (0, x1), (0, x2)] [] z_LL M P := by
  refine wp_run 2 (pc' := 37) (ls' := [(2, 321), (0, x1), (0, x2)]) (st' := [(0, 106), (0, x2)]) rfl ?_
  refine wp_if2 rfl rfl rfl (fun (c1 : 106 ≤ x2) => ?_) (fun (c1 : ¬ (106 ≤ x2)) => ?_)
  · refine wp_run 1 (pc' := 59) (ls' := [(2, 321), (0, x1), (0, x2)]) (st' := [(0, x1)]) rfl ?_
    exact wp_ret rfl rfl (l1 c1)
  · refine wp_run 1 (pc' := 41) (ls' := [(2, 321), (0, x1), (0, x2)]) (st' := [(2, 321)]) rfl ?_
    refine wp_gf (pc' := 44) (t := 2) (v := 342) rfl rfl (by decide) rfl rfl (fx_321_60 hF) ?_
    refine wp_run 2 (pc' := 46) (ls' := [(2, 321), (0, x1), (0, x2)]) (st' := [(2, 321), (0, x2), (2, 342)]) rfl ?_
    refine wp_gf (pc' := 49) (t := 2) (v := 343) rfl rfl (by decide) rfl rfl (fx_321_61 hF) ?_
    refine wp_run 1 (pc' := 50) (ls' := [(2, 321), (0, x1), (0, x2)]) (st' := [(0, x2), (2, 343), (0, x2), (2, 342)]) rfl ?_
    refine wp_iald (pc' := 51) (v := (M 343 x2)) rfl rfl rfl (b1 c1) rfl ?_
    refine wp_iast (pc' := 52) rfl rfl rfl (b1 c1) ?_
    refine wp_run 2 (pc' := 34) (ls' := [(2, 321), (0, x1), (0, (z_w (x2 + 1)))]) (st' := []) rfl ?_
    exact l2 c1
section
variable {xs : List Int} {d : Nat} {M : z_M}
/-- a step of an act: the class's herds, then the model's row -/
theorem z_act {mc mm : z_D} {as bs : List z_V} {v : Int} {t : Int → Int} (hR : z_R M)
    (h1 : ∀ P : Option z_V → z_L → z_M → Prop, (∀ (M1 M2 : z_M) (r A sh : Int), z_kpt M M1 (M 1 2) r A sh → z_hrd M1 r (M 342) → z_psf M1 M2 (M 1 2) → z_hrd M2 (M 1 2) t → P (some (0, v)) z_LL M2) → wp xs d mc 0 as [] z_LL M P)
    (h2 : ∀ (M2 : z_M) (P : Option z_V → z_L → z_M → Prop), (∀ q, (321 ≤ q ∧ q ≤ 357) → M2 q = M q) → z_fix M2 → (∀ (M3 M4 : z_M) (A sh : Int), (∀ q, q ≠ 321 → q ≠ 345 → M3 q = M2 q) → (∀ j, j ≠ 64 → j ≠ 65 → M3 321 j = M2 321 j) → (M3 321 64 = A + 1 ∧ M3 321 65 = 0) → (0 ≤ A ∧ A < 40 ∧ (sh = 0 ∨ sh = 1) ∧ A + sh = M2 321 64 ∧ (sh = 1 → A = 39)) → (∀ i j : Int, 0 ≤ i → i < A → 0 ≤ j → j < 106 → M3 345 (106 * i + j) = M2 345 (106 * (i + sh) + j)) → (∀ j : Int, 0 ≤ j → j < 106 → M3 345 (106 * A + j) = M2 342 j) → (∀ q, ¬ z_scr q → q ≠ 343 → q ≠ 342 → M4 q = M3 q) → (∀ k : Int, ¬ (0 ≤ k ∧ k < 106) → M4 342 k = 0 ∧ M4 343 k = 0) → (∀ k : Int, 0 ≤ k → k < 106 → M4 342 k = t k) → P (some (0, v)) z_LL M4) → wp xs d mm 0 bs [] z_LL M2 P)
    (hS : z_sn M 999 t) : z_two xs d mc mm as bs M := by
  refine h1 _ (fun M1 M2 r A sh K Hr F2 H2 => ⟨v, rfl, rfl, ?_⟩)
  have bh := z_hk_b (z_R_k hR)
  have br := z_hk_b K.1.1
  refine h2 M2 _ (fun q hq => by rw [F2.1 q (by omega) (by omega) (by omega) (by omega) (by omega), K.2.1 q (by omega) (by omega) (by omega)]) ?_ (fun M3 M4 A' sh' m1 m2 m3 m4 m5 m6 F4 Z T => ⟨rfl, rfl, z_act_R hR K Hr F2 H2 m1 m2 m3 m4 m5 m6 F4 Z T hS⟩)
  obtain ⟨⟨k1, k2⟩, k3, k4, k5, k6, k7, k8, k9, k10⟩ := K
  have hk := z_hk_ish (z_R_k hR)
  have hkr := z_hk_ish k1
  have dis := z_hdis hk.1 hkr.1 (fun e => k2 e.symm)
  have F1 : z_fix M1 := z_fix_gen (z_R_F hR) (fun q i hq => by
    by_cases e2 : q = 47
    · rw [e2] at hq ⊢
      rw [show i = 0 by unfold z_fin at hq; omega, k4]
    · by_cases e4 : q = r
      · rw [e4] at hq ⊢
        exact k6 i (by unfold z_fin at hq; omega) (by unfold z_fin at hq; omega)
      · have hq3 : z_ish q ∨ (q ≤ 23 ∨ (30 ≤ q ∧ q ≤ 38) ∨ (45 ≤ q ∧ q ≤ 48) ∨ 289 ≤ q) := by
          unfold z_fin at hq
          unfold z_ish
          omega
        have hq4 : q ≠ 48 := by
          unfold z_fin at hq
          omega
        clear hq
        have na : ¬ (r ≤ q ∧ q ≤ r + 5) := by
          rcases hq3 with w | w
          · have d2 := z_hdis hkr.1 w (fun e => e4 e.symm)
            omega
          · omega
        rw [k3 q e2 hq4 na])
  exact z_psf_fix F2 (z_fix_her F1 hk.1) F1
theorem s_keep {P : Option z_V → z_L → z_M → Prop} (hR : z_R M) (k : ∀ (M1 : z_M) (r A sh : Int), z_kpt M M1 (M 1 2) r A sh → z_hrd M1 r (M 342) → z_hrd M1 (M 1 2) (M 342) → M1 1 = M 1 → M1 321 = M 321 → z_her M1 (M1 1 2) → P none z_LL M1) : wp xs (d + 1) mX4_keep 0 [(2, 47), (2, M 1 2)] [] z_LL M P := by
  have p := hR.2.2.2.1
  refine s_X4_keep (z_R_F hR) (z_R_C hR).2.2.1.2 (z_R_prm hR) (by have := p.2.2.1.1; have := p.2.2.2.1; omega) (z_R_H hR) (fun M1 r A sh K Hr => ?_)
  have bh := z_hk_b (z_R_k hR)
  have br := z_hk_b K.1.1
  have dis := z_hdis (z_hk_ish (z_R_k hR)).1 (z_hk_ish K.1.1).1 (fun e => K.1.2 e.symm)
  have q1 : M1 1 = M 1 := K.2.1 1 (by omega) (by omega) (by omega)
  have H1 : z_hrd M1 (M 1 2) (M 342) := z_hrd_q (fun q hq => K.2.1 q (by omega) (by omega) (by omega)) (z_R_H hR)
  exact k M1 r A sh K Hr H1 q1 (K.2.1 321 (by omega) (by omega) (by omega)) (by rw [q1]; exact H1.1)
theorem s_act {M2 : z_M} {P : Option z_V → z_L → z_M → Prop} (hR : z_R M) (e : ∀ q, (321 ≤ q ∧ q ≤ 357) → M2 q = M q) (hF : z_fix M2) (k : ∀ (M3 : z_M) (A sh : Int), (∀ q, q ≠ 321 → q ≠ 345 → M3 q = M2 q) → (∀ j, j ≠ 64 → j ≠ 65 → M3 321 j = M2 321 j) → (M3 321 64 = A + 1 ∧ M3 321 65 = 0) → (0 ≤ A ∧ A < 40 ∧ (sh = 0 ∨ sh = 1) ∧ A + sh = M2 321 64 ∧ (sh = 1 → A = 39)) → (∀ i j : Int, 0 ≤ i → i < A → 0 ≤ j → j < 106 → M3 345 (106 * i + j) = M2 345 (106 * (i + sh) + j)) → (∀ j : Int, 0 ≤ j → j < 106 → M3 345 (106 * A + j) = M2 342 j) → z_fix M3 → M3 342 = M 342 → P none z_LL M3) : wp xs d mX10_act 0 [(2, 321), (3, 0)] [] z_LL M2 P := by
  have p := hR.2.2.2.1.2.2.2.1
  have e321 := e 321 (by omega)
  refine s_X10_act hF (by rw [e321]; omega) (fun M3 A sh m1 m2 m3 m4 m5 m6 => ?_)
  refine k M3 A sh m1 m2 m3 m4 m5 m6 (z_fix_gen hF (fun q i hq => ?_)) (by rw [m1 342 (by omega) (by omega), e 342 (by omega)])
  by_cases w : q = 321
  · rw [w] at hq ⊢
    exact m2 i (by unfold z_fin at hq; omega) (by unfold z_fin at hq; omega)
  · rw [m1 q w (by unfold z_fin at hq; omega)]
theorem z_two_n {mc mm : z_D} {as bs : List z_V} (v : Int) (hR : z_R M) (h1 : ∀ P : Option z_V → z_L → z_M → Prop, P (some (0, v)) z_LL M → wp xs d mc 0 as [] z_LL M P) (h2 : ∀ P : Option z_V → z_L → z_M → Prop, P (some (0, v)) z_LL M → wp xs d mm 0 bs [] z_LL M P) : z_two xs d mc mm as bs M :=
  h1 _ ⟨v, rfl, rfl, h2 _ ⟨rfl, rfl, hR⟩⟩
theorem z_sn_salt {s : Int → Int} {c v : Int} (hC : z_mc M) (hS : z_sn M 999 s) (h : 0 ≤ c ∧ c < 25) (hv : 0 ≤ v ∧ v ≤ 9) : z_sn M 999 (z_pt s (79 + c) v) := by
  have hn := hC.2.2.1
  obtain ⟨a1, a2, a3, a4, a5, a6⟩ := hS
  refine ⟨fun f h1 h2 => ?_, fun x h1 h2 => ?_, fun k h1 h2 => ?_, ?_, ?_, fun x y h1 h2 h3 h4 h5 => ?_⟩
  · rw [z_pt_n (by omega), z_pt_n (by omega), z_pt_n (by omega)]
    exact a1 f h1 h2
  · rw [z_pt_n (j := 54 + x) (by omega)]
    refine ⟨(a2 x h1 h2).1, ?_, (a2 x h1 h2).2.2⟩
    by_cases e : x = c
    · rw [e, z_pt_s]
      exact hv
    · rw [z_pt_n (by omega)]
      exact (a2 x h1 h2).2.1
  · rw [z_pt_n (by omega), z_pt_n (by omega)]
    exact a3 k h1 h2
  · rw [z_pt_n (by omega)]
    exact a4
  · rw [z_pt_n (by omega)]
    exact a5
  · rw [z_pt_n (by omega)]
    exact a6 x y h1 h2 h3 h4 h5
theorem z_hrd_salt {h : Int} {s : Int → Int} {c v : Int} (hn : M 321 48 ≤ 6) (hH : z_hrd M h s) (hc : 0 ≤ c ∧ c < 25) : z_hrd (z_up M (h + 4) c v) h (z_pt s (79 + c) v) := by
  have hs := z_hsep hH.1
  refine z_hrd_r4 hH (fun q hq => z_upn (by omega)) hn (fun x a b => ?_) (fun k hk => z_pt_n (by omega))
  by_cases e : x = c
  · rw [e, z_ups, z_pt_s]
  · rw [z_upi e rfl, z_pt_n (by omega)]
    exact (hH.2.2.1 x a b).2
theorem c_salt {a1 : Int} (hR : z_R M) : z_two xs (d + 200) mX9_salt mX10_salt [(2, 1), (0, a1), (3, 0)] [(2, 321), (0, a1), (3, 0)] M := by
  have hn := (z_R_C hR).2.2.1
  have hx := z_mc_cells (z_R_C hR)
  obtain ⟨n1, n2, n3, n4, n5⟩ := z_R_n hR
  have g := fun P => gX9_salt_0 (M := M) (xs := xs) (d := d + 198) (P := P) (a1 := a1) (z_R_F hR) (z_R_g hR).1 (z_R_H hR).1
  simp only [n1, n2, n5] at g
  by_cases h : 0 ≤ a1 ∧ a1 < M 321 46 * M 321 47
  · refine z_act (v := M 342 (79 + a1)) (t := z_pt (M 342) (79 + a1) 9) hR (fun P k => ?_) (fun M2 P e hF k => ?_) (z_sn_salt (z_R_C hR) (z_R_S hR) (by omega) (by omega))
    · refine g _ (fun _ => by omega) (fun _ _ => by omega) (fun _ _ => ?_)
      refine s_keep hR (fun M1 r A sh K Hr H1 q1 q321 hh => ?_)
      refine gX9_salt_24 (M := M1) (x1 := a1) hh (by omega) ?_
      rw [q1, (H1.2.2.1 a1 h.1 (by omega)).2]
      have hs := z_hsep H1.1
      exact k M1 _ r A sh K Hr (z_psf_1 H1.1 (by omega) (fun q hq => z_upn hq)) (z_hrd_salt (by rw [q321]; omega) H1 (by omega))
    · have e321 := e 321 (by omega)
      refine gX10_salt_0 hF (z_mc_x (z_cfe_c (fun q hq => e q (by unfold z_conf at hq; omega))) (z_R_C hR)) (fun _ => ?_) (fun q => absurd (by rw [e321]; exact h) q)
      refine s_act hR e hF (fun M3 A sh m1 m2 m3 m4 m5 m6 hF3 e342 => ?_)
      have g := gX10_salt_14 (M := M3) (xs := xs) (d := d + 200) (P := P) (x1 := a1) hF3
      simp only [z_wid (x := 79 + a1) (by omega), e342] at g
      refine g (by omega) (k M3 _ A sh m1 m2 m3 m4 m5 m6 (fun q a b c => z_upn c) (fun k hk => ⟨?_, ?_⟩) (fun k a b => ?_))
      · rw [z_upi (by omega) rfl, e342]
        exact (z_R_Z hR k hk).1
      · rw [z_upn (by decide), m1 343 (by omega) (by omega), e 343 (by omega)]
        exact (z_R_Z hR k hk).2
      · rw [z_upw, e342]
  · refine z_two_n (-1) hR (fun P k => g _ (fun _ => k) (fun _ _ => k) (fun _ _ => by omega)) (fun P k => gX10_salt_0 (z_R_F hR) (z_R_C hR) (fun q => absurd q h) (fun _ => k))
end
