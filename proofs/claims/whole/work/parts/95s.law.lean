/-! THE LAW'S LOOP -/
section
variable {xs : List Int} {d : Nat} {M : z_M} {P : Option z_V → z_L → z_M → Prop} {i : Nat}
def z_lls (i : Nat) : List z_V := [(2, -1), (2, 1), (2, 321), (0, (i : Int))]
theorem wp_sc {μ : z_D} {pc pc' : Nat} {ls r : List z_V} {L : z_L} {i : Int} (hat : z_at μ pc = some (.iaload, 1, 0, 0)) (hp : pc + 1 = pc') (hi : 0 ≤ i ∧ i < xs.length) (kk : wp xs d μ pc' ls ((0, xs.getD i.toNat 0) :: r) L M P) : wp xs d μ pc ls ((0, i) :: (2, -1) :: r) L M P := by
  subst hp
  refine wp_one (S := (pc + 1, ls, (0, xs.getD i.toNat 0) :: r, L, M)) hat ?_ kk
  show z_stk _ pc ls (z_al xs L M 0 (fun k => k == 0) ((0, i) :: (2, -1) :: r)) L M = _
  have hx : (z_xt xs (-1))[i.toNat]? = some (xs.getD i.toNat 0) := by
    show (if (-1 : Int) = -1 then xs else _)[i.toNat]? = _
    rw [if_pos rfl, List.getD_eq_getElem?_getD, List.getElem?_eq_getElem (by omega)]
    rfl
  unfold z_al
  dsimp only
  rw [if_pos ⟨rfl, rfl⟩, if_pos (by decide), if_pos ⟨rfl, hi.1⟩, hx]
  rfl
theorem wp_sl {μ : z_D} {pc pc' : Nat} {ls r : List z_V} {L : z_L} (hat : z_at μ pc = some (.arraylength, 1, 0, 0)) (hp : pc + 1 = pc') (kk : wp xs d μ pc' ls ((0, (xs.length : Int)) :: r) L M P) : wp xs d μ pc ls ((2, -1) :: r) L M P := by
  subst hp
  exact wp_one (S := (pc + 1, ls, (0, (xs.length : Int)) :: r, L, M)) hat rfl kk
theorem z_lp {pc pc' : Nat} {st : List z_V} (k : Int) (hg : z_goN xs mL_law 4 (pc, z_lls i, st, z_LL, M) = some (pc + 4, z_lls i, (0, z_w ((i : Int) + k)) :: (2, -1) :: st, z_LL, M)) (ha : z_at mL_law (pc + 4) = some (.iaload, 1, 0, 0)) (hp : pc + 5 = pc') (hk : (0 ≤ k ∧ k ≤ 5) ∧ i + 5 < xs.length) (hl : xs.length ≤ 3072) (kk : wp xs d mL_law pc' (z_lls i) ((0, xs.getD ((i : Int) + k).toNat 0) :: st) z_LL M P) : wp xs d mL_law pc (z_lls i) st z_LL M P := by
  refine wp_run 4 hg ?_
  rw [z_wid (by omega)]
  exact wp_sc ha hp (by omega) kk

set_option maxRecDepth 20000 in
theorem l_feed (hl : xs.length ≤ 3072) (hi : i + 5 < xs.length) (hR : z_R M) (hn : ∀ M1, z_R M1 → wp xs (d + 201) mL_law 1324 (z_lls i) [] z_LL M1 P) : wp xs (d + 201) mL_law 208 (z_lls i) [] z_LL M P := by
  refine wp_run 1 (pc' := 209) (ls' := z_lls i) (st' := [(2, 1)]) rfl ?_
  refine z_lp (pc' := 214) 1 rfl rfl rfl (by omega) hl ?_
  refine z_lp (pc' := 219) 2 rfl rfl rfl (by omega) hl ?_
  refine z_lp (pc' := 224) 3 rfl rfl rfl (by omega) hl ?_
  refine z_lp (pc' := 229) 4 rfl rfl rfl (by omega) hl ?_
  refine z_lp (pc' := 234) 5 rfl rfl rfl (by omega) hl ?_
  refine wp_callv (pc' := 237) (ν := mX9_feed) rfl rfl rfl rfl rfl rfl ?_
  refine wp.mono (c_feed hR) ?_
  rintro r L1 M1 ⟨v, rfl, rfl, h2⟩
  refine wp_run 1 (pc' := 238) (ls' := z_lls i) (st' := [(2, 321), (0, v)]) rfl ?_
  refine z_lp (pc' := 243) 1 rfl rfl rfl (by omega) hl ?_
  refine z_lp (pc' := 248) 2 rfl rfl rfl (by omega) hl ?_
  refine z_lp (pc' := 253) 3 rfl rfl rfl (by omega) hl ?_
  refine z_lp (pc' := 258) 4 rfl rfl rfl (by omega) hl ?_
  refine z_lp (pc' := 263) 5 rfl rfl rfl (by omega) hl ?_
  refine wp_callv (pc' := 266) (ν := mX10_feed) rfl rfl rfl rfl rfl rfl ?_
  refine wp.mono h2 ?_
  rintro r L2 M2 ⟨rfl, rfl, hR2⟩
  exact wp_if2 rfl rfl rfl (fun _ => hn M2 hR2) (fun c => absurd rfl c)
set_option maxRecDepth 20000 in
theorem l_end (hl : xs.length ≤ 3072) (hi : i + 5 < xs.length) (hR : z_R M) (hn : ∀ M1, z_R M1 → wp xs (d + 201) mL_law 1324 (z_lls i) [] z_LL M1 P) : wp xs (d + 201) mL_law 271 (z_lls i) [] z_LL M P := by
  refine wp_run 1 (pc' := 272) (ls' := z_lls i) (st' := [(2, 1)]) rfl ?_
  refine z_lp (pc' := 277) 1 rfl rfl rfl (by omega) hl ?_
  refine wp_callv (pc' := 280) (ν := mX9_end) rfl rfl rfl rfl rfl rfl ?_
  refine wp.mono (c_end hR) ?_
  rintro r L1 M1 ⟨v, rfl, rfl, h2⟩
  refine wp_run 1 (pc' := 281) (ls' := z_lls i) (st' := [(2, 321), (0, v)]) rfl ?_
  refine z_lp (pc' := 286) 1 rfl rfl rfl (by omega) hl ?_
  refine wp_callv (pc' := 289) (ν := mX10_end) rfl rfl rfl rfl rfl rfl ?_
  refine wp.mono h2 ?_
  rintro r L2 M2 ⟨rfl, rfl, hR2⟩
  exact wp_if2 rfl rfl rfl (fun _ => hn M2 hR2) (fun c => absurd rfl c)
set_option maxRecDepth 20000 in
theorem l_gorge (hl : xs.length ≤ 3072) (hi : i + 5 < xs.length) (hR : z_R M) (hn : ∀ M1, z_R M1 → wp xs (d + 201) mL_law 1324 (z_lls i) [] z_LL M1 P) : wp xs (d + 201) mL_law 294 (z_lls i) [] z_LL M P := by
  refine wp_run 1 (pc' := 295) (ls' := z_lls i) (st' := [(2, 1)]) rfl ?_
  refine wp_callv (pc' := 298) (ν := mX9_gorge) rfl rfl rfl rfl rfl rfl ?_
  refine wp.mono (c_gorge hR) ?_
  rintro r L1 M1 ⟨v, rfl, rfl, h2⟩
  refine wp_run 1 (pc' := 299) (ls' := z_lls i) (st' := [(2, 321), (0, v)]) rfl ?_
  refine wp_callv (pc' := 302) (ν := mX10_gorge) rfl rfl rfl rfl rfl rfl ?_
  refine wp.mono h2 ?_
  rintro r L2 M2 ⟨rfl, rfl, hR2⟩
  exact wp_if2 rfl rfl rfl (fun _ => hn M2 hR2) (fun c => absurd rfl c)
set_option maxRecDepth 20000 in
theorem l_fault (hl : xs.length ≤ 3072) (hi : i + 5 < xs.length) (hR : z_R M) (hn : ∀ M1, z_R M1 → wp xs (d + 201) mL_law 1324 (z_lls i) [] z_LL M1 P) : wp xs (d + 201) mL_law 307 (z_lls i) [] z_LL M P := by
  refine wp_run 1 (pc' := 308) (ls' := z_lls i) (st' := [(2, 1)]) rfl ?_
  refine z_lp (pc' := 313) 1 rfl rfl rfl (by omega) hl ?_
  refine wp_callv (pc' := 316) (ν := mX9_fault) rfl rfl rfl rfl rfl rfl ?_
  refine wp.mono (c_fault hR) ?_
  rintro r L1 M1 ⟨v, rfl, rfl, h2⟩
  refine wp_run 1 (pc' := 317) (ls' := z_lls i) (st' := [(2, 321), (0, v)]) rfl ?_
  refine z_lp (pc' := 322) 1 rfl rfl rfl (by omega) hl ?_
  refine wp_callv (pc' := 325) (ν := mX10_fault) rfl rfl rfl rfl rfl rfl ?_
  refine wp.mono h2 ?_
  rintro r L2 M2 ⟨rfl, rfl, hR2⟩
  exact wp_if2 rfl rfl rfl (fun _ => hn M2 hR2) (fun c => absurd rfl c)
set_option maxRecDepth 20000 in
theorem l_flock (hl : xs.length ≤ 3072) (hi : i + 5 < xs.length) (hR : z_R M) (hn : ∀ M1, z_R M1 → wp xs (d + 201) mL_law 1324 (z_lls i) [] z_LL M1 P) : wp xs (d + 201) mL_law 330 (z_lls i) [] z_LL M P := by
  refine wp_run 1 (pc' := 331) (ls' := z_lls i) (st' := [(2, 1)]) rfl ?_
  refine z_lp (pc' := 336) 1 rfl rfl rfl (by omega) hl ?_
  refine z_lp (pc' := 341) 2 rfl rfl rfl (by omega) hl ?_
  refine wp_callv (pc' := 344) (ν := mX9_flock) rfl rfl rfl rfl rfl rfl ?_
  refine wp.mono (c_flock hR) ?_
  rintro r L1 M1 ⟨v, rfl, rfl, h2⟩
  refine wp_run 1 (pc' := 345) (ls' := z_lls i) (st' := [(2, 321), (0, v)]) rfl ?_
  refine z_lp (pc' := 350) 1 rfl rfl rfl (by omega) hl ?_
  refine z_lp (pc' := 355) 2 rfl rfl rfl (by omega) hl ?_
  refine wp_callv (pc' := 358) (ν := mX10_flock) rfl rfl rfl rfl rfl rfl ?_
  refine wp.mono h2 ?_
  rintro r L2 M2 ⟨rfl, rfl, hR2⟩
  exact wp_if2 rfl rfl rfl (fun _ => hn M2 hR2) (fun c => absurd rfl c)
set_option maxRecDepth 20000 in
theorem l_ground (hl : xs.length ≤ 3072) (hi : i + 5 < xs.length) (hR : z_R M) (hn : ∀ M1, z_R M1 → wp xs (d + 201) mL_law 1324 (z_lls i) [] z_LL M1 P) : wp xs (d + 201) mL_law 363 (z_lls i) [] z_LL M P := by
  refine wp_run 1 (pc' := 364) (ls' := z_lls i) (st' := [(2, 1)]) rfl ?_
  refine z_lp (pc' := 369) 1 rfl rfl rfl (by omega) hl ?_
  refine z_lp (pc' := 374) 2 rfl rfl rfl (by omega) hl ?_
  refine wp_callv (pc' := 377) (ν := mX9_ground) rfl rfl rfl rfl rfl rfl ?_
  refine wp.mono (c_ground hR) ?_
  rintro r L1 M1 ⟨v, rfl, rfl, h2⟩
  refine wp_run 1 (pc' := 378) (ls' := z_lls i) (st' := [(2, 321), (0, v)]) rfl ?_
  refine z_lp (pc' := 383) 1 rfl rfl rfl (by omega) hl ?_
  refine z_lp (pc' := 388) 2 rfl rfl rfl (by omega) hl ?_
  refine wp_callv (pc' := 391) (ν := mX10_ground) rfl rfl rfl rfl rfl rfl ?_
  refine wp.mono h2 ?_
  rintro r L2 M2 ⟨rfl, rfl, hR2⟩
  exact wp_if2 rfl rfl rfl (fun _ => hn M2 hR2) (fun c => absurd rfl c)
set_option maxRecDepth 20000 in
theorem l_pull (hl : xs.length ≤ 3072) (hi : i + 5 < xs.length) (hR : z_R M) (hn : ∀ M1, z_R M1 → wp xs (d + 201) mL_law 1324 (z_lls i) [] z_LL M1 P) : wp xs (d + 201) mL_law 396 (z_lls i) [] z_LL M P := by
  refine wp_run 1 (pc' := 397) (ls' := z_lls i) (st' := [(2, 1)]) rfl ?_
  refine z_lp (pc' := 402) 1 rfl rfl rfl (by omega) hl ?_
  refine z_lp (pc' := 407) 2 rfl rfl rfl (by omega) hl ?_
  refine wp_callv (pc' := 410) (ν := mX9_pull) rfl rfl rfl rfl rfl rfl ?_
  refine wp.mono (c_pull hR) ?_
  rintro r L1 M1 ⟨v, rfl, rfl, h2⟩
  refine wp_run 1 (pc' := 411) (ls' := z_lls i) (st' := [(2, 321), (0, v)]) rfl ?_
  refine z_lp (pc' := 416) 1 rfl rfl rfl (by omega) hl ?_
  refine z_lp (pc' := 421) 2 rfl rfl rfl (by omega) hl ?_
  refine wp_callv (pc' := 424) (ν := mX10_pull) rfl rfl rfl rfl rfl rfl ?_
  refine wp.mono h2 ?_
  rintro r L2 M2 ⟨rfl, rfl, hR2⟩
  exact wp_if2 rfl rfl rfl (fun _ => hn M2 hR2) (fun c => absurd rfl c)
set_option maxRecDepth 20000 in
theorem l_mixed (hl : xs.length ≤ 3072) (hi : i + 5 < xs.length) (hR : z_R M) (hn : ∀ M1, z_R M1 → wp xs (d + 201) mL_law 1324 (z_lls i) [] z_LL M1 P) : wp xs (d + 201) mL_law 429 (z_lls i) [] z_LL M P := by
  refine wp_run 1 (pc' := 430) (ls' := z_lls i) (st' := [(2, 1)]) rfl ?_
  refine z_lp (pc' := 435) 1 rfl rfl rfl (by omega) hl ?_
  refine z_lp (pc' := 440) 2 rfl rfl rfl (by omega) hl ?_
  refine wp_callv (pc' := 443) (ν := mX9_mixed) rfl rfl rfl rfl rfl rfl ?_
  refine wp.mono (c_mixed hR) ?_
  rintro r L1 M1 ⟨v, rfl, rfl, h2⟩
  refine wp_run 1 (pc' := 444) (ls' := z_lls i) (st' := [(2, 321), (0, v)]) rfl ?_
  refine z_lp (pc' := 449) 1 rfl rfl rfl (by omega) hl ?_
  refine z_lp (pc' := 454) 2 rfl rfl rfl (by omega) hl ?_
  refine wp_callv (pc' := 457) (ν := mX10_mixed) rfl rfl rfl rfl rfl rfl ?_
  refine wp.mono h2 ?_
  rintro r L2 M2 ⟨rfl, rfl, hR2⟩
  exact wp_if2 rfl rfl rfl (fun _ => hn M2 hR2) (fun c => absurd rfl c)
set_option maxRecDepth 20000 in
theorem l_wants (hl : xs.length ≤ 3072) (hi : i + 5 < xs.length) (hR : z_R M) (hn : ∀ M1, z_R M1 → wp xs (d + 201) mL_law 1324 (z_lls i) [] z_LL M1 P) : wp xs (d + 201) mL_law 462 (z_lls i) [] z_LL M P := by
  refine wp_run 1 (pc' := 463) (ls' := z_lls i) (st' := [(2, 1)]) rfl ?_
  refine z_lp (pc' := 468) 1 rfl rfl rfl (by omega) hl ?_
  refine z_lp (pc' := 473) 2 rfl rfl rfl (by omega) hl ?_
  refine wp_callv (pc' := 476) (ν := mX9_wants) rfl rfl rfl rfl rfl rfl ?_
  refine wp.mono (c_wants hR) ?_
  rintro r L1 M1 ⟨v, rfl, rfl, h2⟩
  refine wp_run 1 (pc' := 477) (ls' := z_lls i) (st' := [(2, 321), (0, v)]) rfl ?_
  refine z_lp (pc' := 482) 1 rfl rfl rfl (by omega) hl ?_
  refine z_lp (pc' := 487) 2 rfl rfl rfl (by omega) hl ?_
  refine wp_callv (pc' := 490) (ν := mX10_wants) rfl rfl rfl rfl rfl rfl ?_
  refine wp.mono h2 ?_
  rintro r L2 M2 ⟨rfl, rfl, hR2⟩
  exact wp_if2 rfl rfl rfl (fun _ => hn M2 hR2) (fun c => absurd rfl c)
set_option maxRecDepth 20000 in
theorem l_grass (hl : xs.length ≤ 3072) (hi : i + 5 < xs.length) (hR : z_R M) (hn : ∀ M1, z_R M1 → wp xs (d + 201) mL_law 1324 (z_lls i) [] z_LL M1 P) : wp xs (d + 201) mL_law 495 (z_lls i) [] z_LL M P := by
  refine wp_run 1 (pc' := 496) (ls' := z_lls i) (st' := [(2, 1)]) rfl ?_
  refine wp_callv (pc' := 499) (ν := mX9_grass) rfl rfl rfl rfl rfl rfl ?_
  refine wp.mono (c_grass hR) ?_
  rintro r L1 M1 ⟨v, rfl, rfl, h2⟩
  refine wp_run 1 (pc' := 500) (ls' := z_lls i) (st' := [(2, 321), (0, v)]) rfl ?_
  refine wp_callv (pc' := 503) (ν := mX10_grass) rfl rfl rfl rfl rfl rfl ?_
  refine wp.mono h2 ?_
  rintro r L2 M2 ⟨rfl, rfl, hR2⟩
  exact wp_if2 rfl rfl rfl (fun _ => hn M2 hR2) (fun c => absurd rfl c)
set_option maxRecDepth 20000 in
theorem l_matched (hl : xs.length ≤ 3072) (hi : i + 5 < xs.length) (hR : z_R M) (hn : ∀ M1, z_R M1 → wp xs (d + 201) mL_law 1324 (z_lls i) [] z_LL M1 P) : wp xs (d + 201) mL_law 508 (z_lls i) [] z_LL M P := by
  refine wp_run 1 (pc' := 509) (ls' := z_lls i) (st' := [(2, 1)]) rfl ?_
  refine wp_callv (pc' := 512) (ν := mX9_matched) rfl rfl rfl rfl rfl rfl ?_
  refine wp.mono (c_matched hR) ?_
  rintro r L1 M1 ⟨v, rfl, rfl, h2⟩
  refine wp_run 1 (pc' := 513) (ls' := z_lls i) (st' := [(2, 321), (0, v)]) rfl ?_
  refine wp_callv (pc' := 516) (ν := mX10_matched) rfl rfl rfl rfl rfl rfl ?_
  refine wp.mono h2 ?_
  rintro r L2 M2 ⟨rfl, rfl, hR2⟩
  exact wp_if2 rfl rfl rfl (fun _ => hn M2 hR2) (fun c => absurd rfl c)
set_option maxRecDepth 20000 in
theorem l_salt (hl : xs.length ≤ 3072) (hi : i + 5 < xs.length) (hR : z_R M) (hn : ∀ M1, z_R M1 → wp xs (d + 201) mL_law 1324 (z_lls i) [] z_LL M1 P) : wp xs (d + 201) mL_law 521 (z_lls i) [] z_LL M P := by
  refine wp_run 1 (pc' := 522) (ls' := z_lls i) (st' := [(2, 1)]) rfl ?_
  refine z_lp (pc' := 527) 1 rfl rfl rfl (by omega) hl ?_
  refine wp_callv (pc' := 530) (ν := mX9_salt) rfl rfl rfl rfl rfl rfl ?_
  refine wp.mono (c_salt hR) ?_
  rintro r L1 M1 ⟨v, rfl, rfl, h2⟩
  refine wp_run 1 (pc' := 531) (ls' := z_lls i) (st' := [(2, 321), (0, v)]) rfl ?_
  refine z_lp (pc' := 536) 1 rfl rfl rfl (by omega) hl ?_
  refine wp_callv (pc' := 539) (ν := mX10_salt) rfl rfl rfl rfl rfl rfl ?_
  refine wp.mono h2 ?_
  rintro r L2 M2 ⟨rfl, rfl, hR2⟩
  exact wp_if2 rfl rfl rfl (fun _ => hn M2 hR2) (fun c => absurd rfl c)
set_option maxRecDepth 20000 in
theorem l_pen (hl : xs.length ≤ 3072) (hi : i + 5 < xs.length) (hR : z_R M) (hn : ∀ M1, z_R M1 → wp xs (d + 201) mL_law 1324 (z_lls i) [] z_LL M1 P) : wp xs (d + 201) mL_law 544 (z_lls i) [] z_LL M P := by
  refine wp_run 1 (pc' := 545) (ls' := z_lls i) (st' := [(2, 1)]) rfl ?_
  refine z_lp (pc' := 550) 1 rfl rfl rfl (by omega) hl ?_
  refine wp_callv (pc' := 553) (ν := mX9_pen) rfl rfl rfl rfl rfl rfl ?_
  refine wp.mono (c_pen hR) ?_
  rintro r L1 M1 ⟨v, rfl, rfl, h2⟩
  refine wp_run 1 (pc' := 554) (ls' := z_lls i) (st' := [(2, 321), (0, v)]) rfl ?_
  refine z_lp (pc' := 559) 1 rfl rfl rfl (by omega) hl ?_
  refine wp_callv (pc' := 562) (ν := mX10_pen) rfl rfl rfl rfl rfl rfl ?_
  refine wp.mono h2 ?_
  rintro r L2 M2 ⟨rfl, rfl, hR2⟩
  exact wp_if2 rfl rfl rfl (fun _ => hn M2 hR2) (fun c => absurd rfl c)
set_option maxRecDepth 20000 in
theorem l_drive (hl : xs.length ≤ 3072) (hi : i + 5 < xs.length) (hR : z_R M) (hn : ∀ M1, z_R M1 → wp xs (d + 201) mL_law 1324 (z_lls i) [] z_LL M1 P) : wp xs (d + 201) mL_law 567 (z_lls i) [] z_LL M P := by
  refine wp_run 1 (pc' := 568) (ls' := z_lls i) (st' := [(2, 1)]) rfl ?_
  refine z_lp (pc' := 573) 1 rfl rfl rfl (by omega) hl ?_
  refine z_lp (pc' := 578) 2 rfl rfl rfl (by omega) hl ?_
  refine wp_callv (pc' := 581) (ν := mX9_drive) rfl rfl rfl rfl rfl rfl ?_
  refine wp.mono (c_drive hR) ?_
  rintro r L1 M1 ⟨v, rfl, rfl, h2⟩
  refine wp_run 1 (pc' := 582) (ls' := z_lls i) (st' := [(2, 321), (0, v)]) rfl ?_
  refine z_lp (pc' := 587) 1 rfl rfl rfl (by omega) hl ?_
  refine z_lp (pc' := 592) 2 rfl rfl rfl (by omega) hl ?_
  refine wp_callv (pc' := 595) (ν := mX10_drive) rfl rfl rfl rfl rfl rfl ?_
  refine wp.mono h2 ?_
  rintro r L2 M2 ⟨rfl, rfl, hR2⟩
  exact wp_if2 rfl rfl rfl (fun _ => hn M2 hR2) (fun c => absurd rfl c)
set_option maxRecDepth 20000 in
theorem l_breaks (hl : xs.length ≤ 3072) (hi : i + 5 < xs.length) (hR : z_R M) (hn : ∀ M1, z_R M1 → wp xs (d + 201) mL_law 1324 (z_lls i) [] z_LL M1 P) : wp xs (d + 201) mL_law 600 (z_lls i) [] z_LL M P := by
  refine wp_run 1 (pc' := 601) (ls' := z_lls i) (st' := [(2, 1)]) rfl ?_
  refine z_lp (pc' := 606) 1 rfl rfl rfl (by omega) hl ?_
  refine wp_callv (pc' := 609) (ν := mX9_breaks) rfl rfl rfl rfl rfl rfl ?_
  refine wp.mono (c_breaks hR) ?_
  rintro r L1 M1 ⟨v, rfl, rfl, h2⟩
  refine wp_run 1 (pc' := 610) (ls' := z_lls i) (st' := [(2, 321), (0, v)]) rfl ?_
  refine z_lp (pc' := 615) 1 rfl rfl rfl (by omega) hl ?_
  refine wp_callv (pc' := 618) (ν := mX10_breaks) rfl rfl rfl rfl rfl rfl ?_
  refine wp.mono h2 ?_
  rintro r L2 M2 ⟨rfl, rfl, hR2⟩
  exact wp_if2 rfl rfl rfl (fun _ => hn M2 hR2) (fun c => absurd rfl c)
set_option maxRecDepth 20000 in
theorem l_day (hl : xs.length ≤ 3072) (hi : i + 5 < xs.length) (hR : z_R M) (hn : ∀ M1, z_R M1 → wp xs (d + 201) mL_law 1324 (z_lls i) [] z_LL M1 P) : wp xs (d + 201) mL_law 623 (z_lls i) [] z_LL M P := by
  refine wp_run 1 (pc' := 624) (ls' := z_lls i) (st' := [(2, 1)]) rfl ?_
  refine wp_callv (pc' := 627) (ν := mX9_day) rfl rfl rfl rfl rfl rfl ?_
  refine wp.mono (c_day hR) ?_
  rintro r L1 M1 ⟨v, rfl, rfl, h2⟩
  refine wp_run 1 (pc' := 628) (ls' := z_lls i) (st' := [(2, 321), (0, v)]) rfl ?_
  refine wp_callv (pc' := 631) (ν := mX10_day) rfl rfl rfl rfl rfl rfl ?_
  refine wp.mono h2 ?_
  rintro r L2 M2 ⟨rfl, rfl, hR2⟩
  exact wp_if2 rfl rfl rfl (fun _ => hn M2 hR2) (fun c => absurd rfl c)
set_option maxRecDepth 20000 in
theorem l_undo (hl : xs.length ≤ 3072) (hi : i + 5 < xs.length) (hR : z_R M) (hn : ∀ M1, z_R M1 → wp xs (d + 201) mL_law 1324 (z_lls i) [] z_LL M1 P) : wp xs (d + 201) mL_law 636 (z_lls i) [] z_LL M P := by
  refine wp_run 1 (pc' := 637) (ls' := z_lls i) (st' := [(2, 1)]) rfl ?_
  refine wp_callv (pc' := 640) (ν := mX9_undo) rfl rfl rfl rfl rfl rfl ?_
  refine wp.mono (c_undo hR) ?_
  rintro r L1 M1 ⟨v, rfl, rfl, h2⟩
  refine wp_run 1 (pc' := 641) (ls' := z_lls i) (st' := [(2, 321), (0, v)]) rfl ?_
  refine wp_callv (pc' := 644) (ν := mX10_undo) rfl rfl rfl rfl rfl rfl ?_
  refine wp.mono h2 ?_
  rintro r L2 M2 ⟨rfl, rfl, hR2⟩
  exact wp_if2 rfl rfl rfl (fun _ => hn M2 hR2) (fun c => absurd rfl c)
set_option maxRecDepth 20000 in
theorem l_redo (hl : xs.length ≤ 3072) (hi : i + 5 < xs.length) (hR : z_R M) (hn : ∀ M1, z_R M1 → wp xs (d + 201) mL_law 1324 (z_lls i) [] z_LL M1 P) : wp xs (d + 201) mL_law 649 (z_lls i) [] z_LL M P := by
  refine wp_run 1 (pc' := 650) (ls' := z_lls i) (st' := [(2, 1)]) rfl ?_
  refine wp_callv (pc' := 653) (ν := mX9_redo) rfl rfl rfl rfl rfl rfl ?_
  refine wp.mono (c_redo hR) ?_
  rintro r L1 M1 ⟨v, rfl, rfl, h2⟩
  refine wp_run 1 (pc' := 654) (ls' := z_lls i) (st' := [(2, 321), (0, v)]) rfl ?_
  refine wp_callv (pc' := 657) (ν := mX10_redo) rfl rfl rfl rfl rfl rfl ?_
  refine wp.mono h2 ?_
  rintro r L2 M2 ⟨rfl, rfl, hR2⟩
  exact wp_if2 rfl rfl rfl (fun _ => hn M2 hR2) (fun c => absurd rfl c)
set_option maxRecDepth 20000 in
theorem l_will (hl : xs.length ≤ 3072) (hi : i + 5 < xs.length) (hR : z_R M) (hn : ∀ M1, z_R M1 → wp xs (d + 201) mL_law 1324 (z_lls i) [] z_LL M1 P) : wp xs (d + 201) mL_law 662 (z_lls i) [] z_LL M P := by
  refine wp_run 1 (pc' := 663) (ls' := z_lls i) (st' := [(2, 1)]) rfl ?_
  refine z_lp (pc' := 668) 1 rfl rfl rfl (by omega) hl ?_
  refine z_lp (pc' := 673) 2 rfl rfl rfl (by omega) hl ?_
  refine wp_callv (pc' := 676) (ν := mX9_will) rfl rfl rfl rfl rfl rfl ?_
  refine wp.mono (c_will hR) ?_
  rintro r L1 M1 ⟨v, rfl, rfl, h2⟩
  refine wp_run 1 (pc' := 677) (ls' := z_lls i) (st' := [(2, 321), (0, v)]) rfl ?_
  refine z_lp (pc' := 682) 1 rfl rfl rfl (by omega) hl ?_
  refine z_lp (pc' := 687) 2 rfl rfl rfl (by omega) hl ?_
  refine wp_callv (pc' := 690) (ν := mX10_will) rfl rfl rfl rfl rfl rfl ?_
  refine wp.mono h2 ?_
  rintro r L2 M2 ⟨rfl, rfl, hR2⟩
  exact wp_if2 rfl rfl rfl (fun _ => hn M2 hR2) (fun c => absurd rfl c)
set_option maxRecDepth 20000 in
theorem l_mixes (hl : xs.length ≤ 3072) (hi : i + 5 < xs.length) (hR : z_R M) (hn : ∀ M1, z_R M1 → wp xs (d + 201) mL_law 1324 (z_lls i) [] z_LL M1 P) : wp xs (d + 201) mL_law 695 (z_lls i) [] z_LL M P := by
  refine wp_run 1 (pc' := 696) (ls' := z_lls i) (st' := [(2, 1)]) rfl ?_
  refine z_lp (pc' := 701) 1 rfl rfl rfl (by omega) hl ?_
  refine z_lp (pc' := 706) 2 rfl rfl rfl (by omega) hl ?_
  refine z_lp (pc' := 711) 3 rfl rfl rfl (by omega) hl ?_
  refine wp_callv (pc' := 714) (ν := mX9_mixes) rfl rfl rfl rfl rfl rfl ?_
  refine wp.mono (c_mixes hR) ?_
  rintro r L1 M1 ⟨v, rfl, rfl, h2⟩
  refine wp_run 1 (pc' := 715) (ls' := z_lls i) (st' := [(2, 321), (0, v)]) rfl ?_
  refine z_lp (pc' := 720) 1 rfl rfl rfl (by omega) hl ?_
  refine z_lp (pc' := 725) 2 rfl rfl rfl (by omega) hl ?_
  refine z_lp (pc' := 730) 3 rfl rfl rfl (by omega) hl ?_
  refine wp_callv (pc' := 733) (ν := mX10_mixes) rfl rfl rfl rfl rfl rfl ?_
  refine wp.mono h2 ?_
  rintro r L2 M2 ⟨rfl, rfl, hR2⟩
  exact wp_if2 rfl rfl rfl (fun _ => hn M2 hR2) (fun c => absurd rfl c)
set_option maxRecDepth 20000 in
theorem l_weds (hl : xs.length ≤ 3072) (hi : i + 5 < xs.length) (hR : z_R M) (hn : ∀ M1, z_R M1 → wp xs (d + 201) mL_law 1324 (z_lls i) [] z_LL M1 P) : wp xs (d + 201) mL_law 738 (z_lls i) [] z_LL M P := by
  refine wp_run 1 (pc' := 739) (ls' := z_lls i) (st' := [(2, 1)]) rfl ?_
  refine z_lp (pc' := 744) 1 rfl rfl rfl (by omega) hl ?_
  refine wp_callv (pc' := 747) (ν := mX9_weds) rfl rfl rfl rfl rfl rfl ?_
  refine wp.mono (c_weds hR) ?_
  rintro r L1 M1 ⟨v, rfl, rfl, h2⟩
  refine wp_run 1 (pc' := 748) (ls' := z_lls i) (st' := [(2, 321), (0, v)]) rfl ?_
  refine z_lp (pc' := 753) 1 rfl rfl rfl (by omega) hl ?_
  refine wp_callv (pc' := 756) (ν := mX10_weds) rfl rfl rfl rfl rfl rfl ?_
  refine wp.mono h2 ?_
  rintro r L2 M2 ⟨rfl, rfl, hR2⟩
  exact wp_if2 rfl rfl rfl (fun _ => hn M2 hR2) (fun c => absurd rfl c)
set_option maxRecDepth 20000 in
theorem l_trick (hl : xs.length ≤ 3072) (hi : i + 5 < xs.length) (hR : z_R M) (hn : ∀ M1, z_R M1 → wp xs (d + 201) mL_law 1324 (z_lls i) [] z_LL M1 P) : wp xs (d + 201) mL_law 761 (z_lls i) [] z_LL M P := by
  refine wp_run 1 (pc' := 762) (ls' := z_lls i) (st' := [(2, 1)]) rfl ?_
  refine z_lp (pc' := 767) 1 rfl rfl rfl (by omega) hl ?_
  refine z_lp (pc' := 772) 2 rfl rfl rfl (by omega) hl ?_
  refine z_lp (pc' := 777) 3 rfl rfl rfl (by omega) hl ?_
  refine z_lp (pc' := 782) 4 rfl rfl rfl (by omega) hl ?_
  refine z_lp (pc' := 787) 5 rfl rfl rfl (by omega) hl ?_
  refine wp_callv (pc' := 790) (ν := mX9_trick) rfl rfl rfl rfl rfl rfl ?_
  refine wp.mono (c_trick hR) ?_
  rintro r L1 M1 ⟨v, rfl, rfl, h2⟩
  refine wp_run 1 (pc' := 791) (ls' := z_lls i) (st' := [(2, 321), (0, v)]) rfl ?_
  refine z_lp (pc' := 796) 1 rfl rfl rfl (by omega) hl ?_
  refine z_lp (pc' := 801) 2 rfl rfl rfl (by omega) hl ?_
  refine z_lp (pc' := 806) 3 rfl rfl rfl (by omega) hl ?_
  refine z_lp (pc' := 811) 4 rfl rfl rfl (by omega) hl ?_
  refine z_lp (pc' := 816) 5 rfl rfl rfl (by omega) hl ?_
  refine wp_callv (pc' := 819) (ν := mX10_trick) rfl rfl rfl rfl rfl rfl ?_
  refine wp.mono h2 ?_
  rintro r L2 M2 ⟨rfl, rfl, hR2⟩
  exact wp_if2 rfl rfl rfl (fun _ => hn M2 hR2) (fun c => absurd rfl c)
set_option maxRecDepth 20000 in
theorem l_hold (hl : xs.length ≤ 3072) (hi : i + 5 < xs.length) (hR : z_R M) (hn : ∀ M1, z_R M1 → wp xs (d + 201) mL_law 1324 (z_lls i) [] z_LL M1 P) : wp xs (d + 201) mL_law 824 (z_lls i) [] z_LL M P := by
  refine wp_run 1 (pc' := 825) (ls' := z_lls i) (st' := [(2, 1)]) rfl ?_
  refine z_lp (pc' := 830) 1 rfl rfl rfl (by omega) hl ?_
  refine z_lp (pc' := 835) 2 rfl rfl rfl (by omega) hl ?_
  refine z_lp (pc' := 840) 3 rfl rfl rfl (by omega) hl ?_
  refine z_lp (pc' := 845) 4 rfl rfl rfl (by omega) hl ?_
  refine wp_callv (pc' := 848) (ν := mX9_hold) rfl rfl rfl rfl rfl rfl ?_
  refine wp.mono (c_hold hR) ?_
  rintro r L1 M1 ⟨v, rfl, rfl, h2⟩
  refine wp_run 1 (pc' := 849) (ls' := z_lls i) (st' := [(2, 321), (0, v)]) rfl ?_
  refine z_lp (pc' := 854) 1 rfl rfl rfl (by omega) hl ?_
  refine z_lp (pc' := 859) 2 rfl rfl rfl (by omega) hl ?_
  refine z_lp (pc' := 864) 3 rfl rfl rfl (by omega) hl ?_
  refine z_lp (pc' := 869) 4 rfl rfl rfl (by omega) hl ?_
  refine wp_callv (pc' := 872) (ν := mX10_hold) rfl rfl rfl rfl rfl rfl ?_
  refine wp.mono h2 ?_
  rintro r L2 M2 ⟨rfl, rfl, hR2⟩
  exact wp_if2 rfl rfl rfl (fun _ => hn M2 hR2) (fun c => absurd rfl c)
set_option maxRecDepth 20000 in
theorem l_lead (hl : xs.length ≤ 3072) (hi : i + 5 < xs.length) (hR : z_R M) (hn : ∀ M1, z_R M1 → wp xs (d + 201) mL_law 1324 (z_lls i) [] z_LL M1 P) : wp xs (d + 201) mL_law 877 (z_lls i) [] z_LL M P := by
  refine wp_run 1 (pc' := 878) (ls' := z_lls i) (st' := [(2, 1)]) rfl ?_
  refine z_lp (pc' := 883) 1 rfl rfl rfl (by omega) hl ?_
  refine z_lp (pc' := 888) 2 rfl rfl rfl (by omega) hl ?_
  refine z_lp (pc' := 893) 3 rfl rfl rfl (by omega) hl ?_
  refine z_lp (pc' := 898) 4 rfl rfl rfl (by omega) hl ?_
  refine wp_callv (pc' := 901) (ν := mX9_lead) rfl rfl rfl rfl rfl rfl ?_
  refine wp.mono (c_lead hR) ?_
  rintro r L1 M1 ⟨v, rfl, rfl, h2⟩
  refine wp_run 1 (pc' := 902) (ls' := z_lls i) (st' := [(2, 321), (0, v)]) rfl ?_
  refine z_lp (pc' := 907) 1 rfl rfl rfl (by omega) hl ?_
  refine z_lp (pc' := 912) 2 rfl rfl rfl (by omega) hl ?_
  refine z_lp (pc' := 917) 3 rfl rfl rfl (by omega) hl ?_
  refine z_lp (pc' := 922) 4 rfl rfl rfl (by omega) hl ?_
  refine wp_callv (pc' := 925) (ν := mX10_lead) rfl rfl rfl rfl rfl rfl ?_
  refine wp.mono h2 ?_
  rintro r L2 M2 ⟨rfl, rfl, hR2⟩
  exact wp_if2 rfl rfl rfl (fun _ => hn M2 hR2) (fun c => absurd rfl c)
set_option maxRecDepth 20000 in
theorem l_bachelors (hl : xs.length ≤ 3072) (hi : i + 5 < xs.length) (hR : z_R M) (hn : ∀ M1, z_R M1 → wp xs (d + 201) mL_law 1324 (z_lls i) [] z_LL M1 P) : wp xs (d + 201) mL_law 930 (z_lls i) [] z_LL M P := by
  refine wp_run 1 (pc' := 931) (ls' := z_lls i) (st' := [(2, 1)]) rfl ?_
  refine z_lp (pc' := 936) 1 rfl rfl rfl (by omega) hl ?_
  refine wp_callv (pc' := 939) (ν := mX9_bachelors) rfl rfl rfl rfl rfl rfl ?_
  refine wp.mono (c_bachelors hR) ?_
  rintro r L1 M1 ⟨v, rfl, rfl, h2⟩
  refine wp_run 1 (pc' := 940) (ls' := z_lls i) (st' := [(2, 321), (0, v)]) rfl ?_
  refine z_lp (pc' := 945) 1 rfl rfl rfl (by omega) hl ?_
  refine wp_callv (pc' := 948) (ν := mX10_bachelors) rfl rfl rfl rfl rfl rfl ?_
  refine wp.mono h2 ?_
  rintro r L2 M2 ⟨rfl, rfl, hR2⟩
  exact wp_if2 rfl rfl rfl (fun _ => hn M2 hR2) (fun c => absurd rfl c)
set_option maxRecDepth 20000 in
theorem l_dear (hl : xs.length ≤ 3072) (hi : i + 5 < xs.length) (hR : z_R M) (hn : ∀ M1, z_R M1 → wp xs (d + 201) mL_law 1324 (z_lls i) [] z_LL M1 P) : wp xs (d + 201) mL_law 953 (z_lls i) [] z_LL M P := by
  refine wp_run 1 (pc' := 954) (ls' := z_lls i) (st' := [(2, 1)]) rfl ?_
  refine wp_callv (pc' := 957) (ν := mX9_dear) rfl rfl rfl rfl rfl rfl ?_
  refine wp.mono (c_dear hR) ?_
  rintro r L1 M1 ⟨v, rfl, rfl, h2⟩
  refine wp_run 1 (pc' := 958) (ls' := z_lls i) (st' := [(2, 321), (0, v)]) rfl ?_
  refine wp_callv (pc' := 961) (ν := mX10_dear) rfl rfl rfl rfl rfl rfl ?_
  refine wp.mono h2 ?_
  rintro r L2 M2 ⟨rfl, rfl, hR2⟩
  exact wp_if2 rfl rfl rfl (fun _ => hn M2 hR2) (fun c => absurd rfl c)
set_option maxRecDepth 20000 in
theorem l_law (hl : xs.length ≤ 3072) (hi : i + 5 < xs.length) (hR : z_R M) (hn : ∀ M1, z_R M1 → wp xs (d + 201) mL_law 1324 (z_lls i) [] z_LL M1 P) : wp xs (d + 201) mL_law 966 (z_lls i) [] z_LL M P := by
  refine wp_run 1 (pc' := 967) (ls' := z_lls i) (st' := [(2, 1)]) rfl ?_
  refine z_lp (pc' := 972) 1 rfl rfl rfl (by omega) hl ?_
  refine wp_callv (pc' := 975) (ν := mX9_law) rfl rfl rfl rfl rfl rfl ?_
  refine wp.mono (c_law hR) ?_
  rintro r L1 M1 ⟨v, rfl, rfl, h2⟩
  refine wp_run 1 (pc' := 976) (ls' := z_lls i) (st' := [(2, 321), (0, v)]) rfl ?_
  refine z_lp (pc' := 981) 1 rfl rfl rfl (by omega) hl ?_
  refine wp_callv (pc' := 984) (ν := mX10_law) rfl rfl rfl rfl rfl rfl ?_
  refine wp.mono h2 ?_
  rintro r L2 M2 ⟨rfl, rfl, hR2⟩
  exact wp_if2 rfl rfl rfl (fun _ => hn M2 hR2) (fun c => absurd rfl c)
set_option maxRecDepth 20000 in
theorem l_calm (hl : xs.length ≤ 3072) (hi : i + 5 < xs.length) (hR : z_R M) (hn : ∀ M1, z_R M1 → wp xs (d + 201) mL_law 1324 (z_lls i) [] z_LL M1 P) : wp xs (d + 201) mL_law 989 (z_lls i) [] z_LL M P := by
  refine wp_run 1 (pc' := 990) (ls' := z_lls i) (st' := [(2, 1)]) rfl ?_
  refine wp_callv (pc' := 993) (ν := mX9_calm) rfl rfl rfl rfl rfl rfl ?_
  refine wp.mono (c_calm hR) ?_
  rintro r L1 M1 ⟨v, rfl, rfl, h2⟩
  refine wp_run 1 (pc' := 994) (ls' := z_lls i) (st' := [(2, 321), (0, v)]) rfl ?_
  refine wp_callv (pc' := 997) (ν := mX10_calm) rfl rfl rfl rfl rfl rfl ?_
  refine wp.mono h2 ?_
  rintro r L2 M2 ⟨rfl, rfl, hR2⟩
  exact wp_if2 rfl rfl rfl (fun _ => hn M2 hR2) (fun c => absurd rfl c)
set_option maxRecDepth 20000 in
theorem l_reach (hl : xs.length ≤ 3072) (hi : i + 5 < xs.length) (hR : z_R M) (hn : ∀ M1, z_R M1 → wp xs (d + 201) mL_law 1324 (z_lls i) [] z_LL M1 P) : wp xs (d + 201) mL_law 1002 (z_lls i) [] z_LL M P := by
  refine wp_run 1 (pc' := 1003) (ls' := z_lls i) (st' := [(2, 1)]) rfl ?_
  refine z_lp (pc' := 1008) 1 rfl rfl rfl (by omega) hl ?_
  refine wp_callv (pc' := 1011) (ν := mX9_reach) rfl rfl rfl rfl rfl rfl ?_
  refine wp.mono (c_reach hR) ?_
  rintro r L1 M1 ⟨v, rfl, rfl, h2⟩
  refine wp_run 1 (pc' := 1012) (ls' := z_lls i) (st' := [(2, 321), (0, v)]) rfl ?_
  refine z_lp (pc' := 1017) 1 rfl rfl rfl (by omega) hl ?_
  refine wp_callv (pc' := 1020) (ν := mX10_reach) rfl rfl rfl rfl rfl rfl ?_
  refine wp.mono h2 ?_
  rintro r L2 M2 ⟨rfl, rfl, hR2⟩
  exact wp_if2 rfl rfl rfl (fun _ => hn M2 hR2) (fun c => absurd rfl c)
set_option maxRecDepth 20000 in
theorem l_wells (hl : xs.length ≤ 3072) (hi : i + 5 < xs.length) (hR : z_R M) (hn : ∀ M1, z_R M1 → wp xs (d + 201) mL_law 1324 (z_lls i) [] z_LL M1 P) : wp xs (d + 201) mL_law 1025 (z_lls i) [] z_LL M P := by
  refine wp_run 1 (pc' := 1026) (ls' := z_lls i) (st' := [(2, 1)]) rfl ?_
  refine wp_callv (pc' := 1029) (ν := mX9_wells) rfl rfl rfl rfl rfl rfl ?_
  refine wp.mono (c_wells hR) ?_
  rintro r L1 M1 ⟨v, rfl, rfl, h2⟩
  refine wp_run 1 (pc' := 1030) (ls' := z_lls i) (st' := [(2, 321), (0, v)]) rfl ?_
  refine wp_callv (pc' := 1033) (ν := mX10_wells) rfl rfl rfl rfl rfl rfl ?_
  refine wp.mono h2 ?_
  rintro r L2 M2 ⟨rfl, rfl, hR2⟩
  exact wp_if2 rfl rfl rfl (fun _ => hn M2 hR2) (fun c => absurd rfl c)
set_option maxRecDepth 20000 in
theorem l_bare (hl : xs.length ≤ 3072) (hi : i + 5 < xs.length) (hR : z_R M) (hn : ∀ M1, z_R M1 → wp xs (d + 201) mL_law 1324 (z_lls i) [] z_LL M1 P) : wp xs (d + 201) mL_law 1038 (z_lls i) [] z_LL M P := by
  refine wp_run 1 (pc' := 1039) (ls' := z_lls i) (st' := [(2, 1)]) rfl ?_
  refine wp_callv (pc' := 1042) (ν := mX9_bare) rfl rfl rfl rfl rfl rfl ?_
  refine wp.mono (c_bare hR) ?_
  rintro r L1 M1 ⟨v, rfl, rfl, h2⟩
  refine wp_run 1 (pc' := 1043) (ls' := z_lls i) (st' := [(2, 321), (0, v)]) rfl ?_
  refine wp_callv (pc' := 1046) (ν := mX10_bare) rfl rfl rfl rfl rfl rfl ?_
  refine wp.mono h2 ?_
  rintro r L2 M2 ⟨rfl, rfl, hR2⟩
  exact wp_if2 rfl rfl rfl (fun _ => hn M2 hR2) (fun c => absurd rfl c)
set_option maxRecDepth 20000 in
theorem l_lies (hl : xs.length ≤ 3072) (hi : i + 5 < xs.length) (hR : z_R M) (hn : ∀ M1, z_R M1 → wp xs (d + 201) mL_law 1324 (z_lls i) [] z_LL M1 P) : wp xs (d + 201) mL_law 1051 (z_lls i) [] z_LL M P := by
  refine wp_run 1 (pc' := 1052) (ls' := z_lls i) (st' := [(2, 1)]) rfl ?_
  refine z_lp (pc' := 1057) 1 rfl rfl rfl (by omega) hl ?_
  refine wp_callv (pc' := 1060) (ν := mX9_lies) rfl rfl rfl rfl rfl rfl ?_
  refine wp.mono (c_lies hR) ?_
  rintro r L1 M1 ⟨v, rfl, rfl, h2⟩
  refine wp_run 1 (pc' := 1061) (ls' := z_lls i) (st' := [(2, 321), (0, v)]) rfl ?_
  refine z_lp (pc' := 1066) 1 rfl rfl rfl (by omega) hl ?_
  refine wp_callv (pc' := 1069) (ν := mX10_lies) rfl rfl rfl rfl rfl rfl ?_
  refine wp.mono h2 ?_
  rintro r L2 M2 ⟨rfl, rfl, hR2⟩
  exact wp_if2 rfl rfl rfl (fun _ => hn M2 hR2) (fun c => absurd rfl c)
set_option maxRecDepth 20000 in
theorem z_lb {pc : Nat} {x : Int} {st : List z_V} (b : Int) (h : (x = 0 ∧ b = 0) ∨ (x ≠ 0 ∧ b = 1)) (h1 : z_at mL_law pc = some (.ifCond .eq 7, 3, 0, 0)) (h2 : z_tg pc 7 = pc + 7) (h3 : z_goN xs mL_law 2 (pc + 3, z_lls i, st, z_LL, M) = some (pc + 8, z_lls i, (0, 1) :: st, z_LL, M)) (h4 : z_goN xs mL_law 1 (pc + 7, z_lls i, st, z_LL, M) = some (pc + 8, z_lls i, (0, 0) :: st, z_LL, M)) (kk : wp xs d mL_law (pc + 8) (z_lls i) ((0, b) :: st) z_LL M P) : wp xs d mL_law pc (z_lls i) ((0, x) :: st) z_LL M P := by
  rcases h with ⟨hx, rfl⟩ | ⟨hx, rfl⟩
  · exact wp_if1 h1 rfl h2 (fun _ => wp_run 1 h4 kk) (fun c => absurd hx c)
  · exact wp_if1 h1 rfl h2 (fun c => absurd c hx) (fun _ => wp_run 2 h3 kk)
set_option maxRecDepth 20000 in
theorem l_seen (hl : xs.length ≤ 3072) (hi : i + 5 < xs.length) (hR : z_R M) (hn : ∀ M1, z_R M1 → wp xs (d + 201) mL_law 1324 (z_lls i) [] z_LL M1 P) : wp xs (d + 201) mL_law 1074 (z_lls i) [] z_LL M P := by
  obtain ⟨b, hb1, hb2⟩ : ∃ b : Int, ((xs.getD ((i : Int) + 4).toNat 0 = 0 ∧ b = 0) ∨ (xs.getD ((i : Int) + 4).toNat 0 ≠ 0 ∧ b = 1)) ∧ (b = 0 ∨ b = 1) := by
    by_cases h : xs.getD ((i : Int) + 4).toNat 0 = 0
    · exact ⟨0, Or.inl ⟨h, rfl⟩, Or.inl rfl⟩
    · exact ⟨1, Or.inr ⟨h, rfl⟩, Or.inr rfl⟩
  refine wp_run 1 (pc' := 1075) (ls' := z_lls i) (st' := [(2, 1)]) rfl ?_
  refine z_lp (pc' := 1080) 1 rfl rfl rfl (by omega) hl ?_
  refine z_lp (pc' := 1085) 2 rfl rfl rfl (by omega) hl ?_
  refine z_lp (pc' := 1090) 3 rfl rfl rfl (by omega) hl ?_
  refine z_lp (pc' := 1095) 4 rfl rfl rfl (by omega) hl ?_
  refine z_lb b hb1 rfl rfl rfl rfl ?_
  refine wp_callv (pc' := 1106) (ν := mX9_seen) rfl rfl rfl rfl rfl rfl ?_
  refine wp.mono (c_seen hR hb2) ?_
  rintro r L1 M1 ⟨v, rfl, rfl, h2⟩
  refine wp_run 1 (pc' := 1107) (ls' := z_lls i) (st' := [(2, 321), (0, v)]) rfl ?_
  refine z_lp (pc' := 1112) 1 rfl rfl rfl (by omega) hl ?_
  refine z_lp (pc' := 1117) 2 rfl rfl rfl (by omega) hl ?_
  refine z_lp (pc' := 1122) 3 rfl rfl rfl (by omega) hl ?_
  refine z_lp (pc' := 1127) 4 rfl rfl rfl (by omega) hl ?_
  refine z_lb b hb1 rfl rfl rfl rfl ?_
  refine wp_callv (pc' := 1138) (ν := mX10_seen) rfl rfl rfl rfl rfl rfl ?_
  refine wp.mono h2 ?_
  rintro r L2 M2 ⟨rfl, rfl, hR2⟩
  exact wp_if2 rfl rfl rfl (fun _ => hn M2 hR2) (fun c => absurd rfl c)
set_option maxRecDepth 20000 in
theorem l_untell (hl : xs.length ≤ 3072) (hi : i + 5 < xs.length) (hR : z_R M) (hn : ∀ M1, z_R M1 → wp xs (d + 201) mL_law 1324 (z_lls i) [] z_LL M1 P) : wp xs (d + 201) mL_law 1143 (z_lls i) [] z_LL M P := by
  refine wp_run 1 (pc' := 1144) (ls' := z_lls i) (st' := [(2, 1)]) rfl ?_
  refine z_lp (pc' := 1149) 1 rfl rfl rfl (by omega) hl ?_
  refine wp_callv (pc' := 1152) (ν := mX9_untell) rfl rfl rfl rfl rfl rfl ?_
  refine wp.mono (c_untell hR) ?_
  rintro r L1 M1 ⟨v, rfl, rfl, h2⟩
  refine wp_run 1 (pc' := 1153) (ls' := z_lls i) (st' := [(2, 321), (0, v)]) rfl ?_
  refine z_lp (pc' := 1158) 1 rfl rfl rfl (by omega) hl ?_
  refine wp_callv (pc' := 1161) (ν := mX10_untell) rfl rfl rfl rfl rfl rfl ?_
  refine wp.mono h2 ?_
  rintro r L2 M2 ⟨rfl, rfl, hR2⟩
  exact wp_if2 rfl rfl rfl (fun _ => hn M2 hR2) (fun c => absurd rfl c)
set_option maxRecDepth 20000 in
theorem l_later (hl : xs.length ≤ 3072) (hi : i + 5 < xs.length) (hR : z_R M) (hn : ∀ M1, z_R M1 → wp xs (d + 201) mL_law 1324 (z_lls i) [] z_LL M1 P) : wp xs (d + 201) mL_law 1166 (z_lls i) [] z_LL M P := by
  refine wp_run 1 (pc' := 1167) (ls' := z_lls i) (st' := [(2, 1)]) rfl ?_
  refine z_lp (pc' := 1172) 1 rfl rfl rfl (by omega) hl ?_
  refine wp_callv (pc' := 1175) (ν := mX9_later) rfl rfl rfl rfl rfl rfl ?_
  refine wp.mono (c_later hR) ?_
  rintro r L1 M1 ⟨v, rfl, rfl, h2⟩
  refine wp_run 1 (pc' := 1176) (ls' := z_lls i) (st' := [(2, 321), (0, v)]) rfl ?_
  refine z_lp (pc' := 1181) 1 rfl rfl rfl (by omega) hl ?_
  refine wp_callv (pc' := 1184) (ν := mX10_later) rfl rfl rfl rfl rfl rfl ?_
  refine wp.mono h2 ?_
  rintro r L2 M2 ⟨rfl, rfl, hR2⟩
  exact wp_if2 rfl rfl rfl (fun _ => hn M2 hR2) (fun c => absurd rfl c)
set_option maxRecDepth 20000 in
theorem l_ledges (hl : xs.length ≤ 3072) (hi : i + 5 < xs.length) (hR : z_R M) (hn : ∀ M1, z_R M1 → wp xs (d + 201) mL_law 1324 (z_lls i) [] z_LL M1 P) : wp xs (d + 201) mL_law 1189 (z_lls i) [] z_LL M P := by
  refine wp_run 1 (pc' := 1190) (ls' := z_lls i) (st' := [(2, 1)]) rfl ?_
  refine z_lp (pc' := 1195) 1 rfl rfl rfl (by omega) hl ?_
  refine wp_callv (pc' := 1198) (ν := mX9_ledges) rfl rfl rfl rfl rfl rfl ?_
  refine wp.mono (c_ledges hR) ?_
  rintro r L1 M1 ⟨v, rfl, rfl, h2⟩
  refine wp_run 1 (pc' := 1199) (ls' := z_lls i) (st' := [(2, 321), (0, v)]) rfl ?_
  refine z_lp (pc' := 1204) 1 rfl rfl rfl (by omega) hl ?_
  refine wp_callv (pc' := 1207) (ν := mX10_ledges) rfl rfl rfl rfl rfl rfl ?_
  refine wp.mono h2 ?_
  rintro r L2 M2 ⟨rfl, rfl, hR2⟩
  exact wp_if2 rfl rfl rfl (fun _ => hn M2 hR2) (fun c => absurd rfl c)
set_option maxRecDepth 20000 in
theorem l_ask (hl : xs.length ≤ 3072) (hi : i + 5 < xs.length) (hR : z_R M) (hn : ∀ M1, z_R M1 → wp xs (d + 201) mL_law 1324 (z_lls i) [] z_LL M1 P) : wp xs (d + 201) mL_law 1212 (z_lls i) [] z_LL M P := by
  refine wp_run 1 (pc' := 1213) (ls' := z_lls i) (st' := [(2, 1)]) rfl ?_
  refine z_lp (pc' := 1218) 1 rfl rfl rfl (by omega) hl ?_
  refine z_lp (pc' := 1223) 2 rfl rfl rfl (by omega) hl ?_
  refine z_lp (pc' := 1228) 3 rfl rfl rfl (by omega) hl ?_
  refine wp_callv (pc' := 1231) (ν := mX9_ask) rfl rfl rfl rfl rfl rfl ?_
  refine wp.mono (c_ask hR) ?_
  rintro r L1 M1 ⟨v, rfl, rfl, h2⟩
  refine wp_run 1 (pc' := 1232) (ls' := z_lls i) (st' := [(2, 321), (0, v)]) rfl ?_
  refine z_lp (pc' := 1237) 1 rfl rfl rfl (by omega) hl ?_
  refine z_lp (pc' := 1242) 2 rfl rfl rfl (by omega) hl ?_
  refine z_lp (pc' := 1247) 3 rfl rfl rfl (by omega) hl ?_
  refine wp_callv (pc' := 1250) (ν := mX10_ask) rfl rfl rfl rfl rfl rfl ?_
  refine wp.mono h2 ?_
  rintro r L2 M2 ⟨rfl, rfl, hR2⟩
  exact wp_if2 rfl rfl rfl (fun _ => hn M2 hR2) (fun c => absurd rfl c)
set_option maxRecDepth 20000 in
theorem l_image (hl : xs.length ≤ 3072) (hi : i + 5 < xs.length) (hR : z_R M) (hn : ∀ M1, z_R M1 → wp xs (d + 201) mL_law 1324 (z_lls i) [] z_LL M1 P) : wp xs (d + 201) mL_law 1255 (z_lls i) [] z_LL M P := by
  refine wp_run 1 (pc' := 1256) (ls' := z_lls i) (st' := [(2, 1)]) rfl ?_
  refine z_lp (pc' := 1261) 1 rfl rfl rfl (by omega) hl ?_
  refine wp_callv (pc' := 1264) (ν := mX9_image) rfl rfl rfl rfl rfl rfl ?_
  refine wp.mono (c_image hR) ?_
  rintro r L1 M1 ⟨v, rfl, rfl, h2⟩
  refine wp_run 1 (pc' := 1265) (ls' := z_lls i) (st' := [(2, 321), (0, v)]) rfl ?_
  refine z_lp (pc' := 1270) 1 rfl rfl rfl (by omega) hl ?_
  refine wp_callv (pc' := 1273) (ν := mX10_image) rfl rfl rfl rfl rfl rfl ?_
  refine wp.mono h2 ?_
  rintro r L2 M2 ⟨rfl, rfl, hR2⟩
  exact wp_if2 rfl rfl rfl (fun _ => hn M2 hR2) (fun c => absurd rfl c)
set_option maxRecDepth 20000 in
theorem l_back (hl : xs.length ≤ 3072) (hi : i + 5 < xs.length) (hR : z_R M) (hn : ∀ M1, z_R M1 → wp xs (d + 201) mL_law 1324 (z_lls i) [] z_LL M1 P) : wp xs (d + 201) mL_law 1278 (z_lls i) [] z_LL M P := by
  refine wp_run 1 (pc' := 1279) (ls' := z_lls i) (st' := [(2, 1)]) rfl ?_
  refine z_lp (pc' := 1284) 1 rfl rfl rfl (by omega) hl ?_
  refine wp_callv (pc' := 1287) (ν := mX9_back) rfl rfl rfl rfl rfl rfl ?_
  refine wp.mono (c_back hR) ?_
  rintro r L1 M1 ⟨v, rfl, rfl, h2⟩
  refine wp_run 1 (pc' := 1288) (ls' := z_lls i) (st' := [(2, 321), (0, v)]) rfl ?_
  refine z_lp (pc' := 1293) 1 rfl rfl rfl (by omega) hl ?_
  refine wp_callv (pc' := 1296) (ν := mX10_back) rfl rfl rfl rfl rfl rfl ?_
  refine wp.mono h2 ?_
  rintro r L2 M2 ⟨rfl, rfl, hR2⟩
  exact wp_if2 rfl rfl rfl (fun _ => hn M2 hR2) (fun c => absurd rfl c)
set_option maxRecDepth 20000 in
theorem l_about (hl : xs.length ≤ 3072) (hi : i + 5 < xs.length) (hR : z_R M) (hn : ∀ M1, z_R M1 → wp xs (d + 201) mL_law 1324 (z_lls i) [] z_LL M1 P) : wp xs (d + 201) mL_law 1301 (z_lls i) [] z_LL M P := by
  refine wp_run 1 (pc' := 1302) (ls' := z_lls i) (st' := [(2, 1)]) rfl ?_
  refine z_lp (pc' := 1307) 1 rfl rfl rfl (by omega) hl ?_
  refine wp_callv (pc' := 1310) (ν := mX9_about) rfl rfl rfl rfl rfl rfl ?_
  refine wp.mono (c_about hR) ?_
  rintro r L1 M1 ⟨v, rfl, rfl, h2⟩
  refine wp_run 1 (pc' := 1311) (ls' := z_lls i) (st' := [(2, 321), (0, v)]) rfl ?_
  refine z_lp (pc' := 1316) 1 rfl rfl rfl (by omega) hl ?_
  refine wp_callv (pc' := 1319) (ν := mX10_about) rfl rfl rfl rfl rfl rfl ?_
  refine wp.mono h2 ?_
  rintro r L2 M2 ⟨rfl, rfl, hR2⟩
  exact wp_if2 rfl rfl rfl (fun _ => hn M2 hR2) (fun c => absurd rfl c)
set_option maxRecDepth 20000 in
theorem l_sw (hl : xs.length ≤ 3072) (hi : i + 5 < xs.length) (hR : z_R M) (s : Int) (hn : ∀ M1, z_R M1 → wp xs (d + 201) mL_law 1324 (z_lls i) [] z_LL M1 P) : wp xs (d + 201) mL_law 33 (z_lls i) [(0, s)] z_LL M P := by
  by_cases hs : 0 ≤ s ∧ s < 40
  · obtain ⟨k, rfl⟩ := Int.eq_ofNat_of_zero_le hs.1
    have hk : k < 40 := by omega
    clear hs
    match k, hk with
    | 0, _ => exact wp_run 1 (pc' := 208) (ls' := z_lls i) (st' := []) rfl (l_feed hl hi hR hn)
    | 1, _ => exact wp_run 1 (pc' := 271) (ls' := z_lls i) (st' := []) rfl (l_end hl hi hR hn)
    | 2, _ => exact wp_run 1 (pc' := 294) (ls' := z_lls i) (st' := []) rfl (l_gorge hl hi hR hn)
    | 3, _ => exact wp_run 1 (pc' := 307) (ls' := z_lls i) (st' := []) rfl (l_fault hl hi hR hn)
    | 4, _ => exact wp_run 1 (pc' := 330) (ls' := z_lls i) (st' := []) rfl (l_flock hl hi hR hn)
    | 5, _ => exact wp_run 1 (pc' := 363) (ls' := z_lls i) (st' := []) rfl (l_ground hl hi hR hn)
    | 6, _ => exact wp_run 1 (pc' := 396) (ls' := z_lls i) (st' := []) rfl (l_pull hl hi hR hn)
    | 7, _ => exact wp_run 1 (pc' := 429) (ls' := z_lls i) (st' := []) rfl (l_mixed hl hi hR hn)
    | 8, _ => exact wp_run 1 (pc' := 462) (ls' := z_lls i) (st' := []) rfl (l_wants hl hi hR hn)
    | 9, _ => exact wp_run 1 (pc' := 495) (ls' := z_lls i) (st' := []) rfl (l_grass hl hi hR hn)
    | 10, _ => exact wp_run 1 (pc' := 508) (ls' := z_lls i) (st' := []) rfl (l_matched hl hi hR hn)
    | 11, _ => exact wp_run 1 (pc' := 521) (ls' := z_lls i) (st' := []) rfl (l_salt hl hi hR hn)
    | 12, _ => exact wp_run 1 (pc' := 544) (ls' := z_lls i) (st' := []) rfl (l_pen hl hi hR hn)
    | 13, _ => exact wp_run 1 (pc' := 567) (ls' := z_lls i) (st' := []) rfl (l_drive hl hi hR hn)
    | 14, _ => exact wp_run 1 (pc' := 600) (ls' := z_lls i) (st' := []) rfl (l_breaks hl hi hR hn)
    | 15, _ => exact wp_run 1 (pc' := 623) (ls' := z_lls i) (st' := []) rfl (l_day hl hi hR hn)
    | 16, _ => exact wp_run 1 (pc' := 636) (ls' := z_lls i) (st' := []) rfl (l_undo hl hi hR hn)
    | 17, _ => exact wp_run 1 (pc' := 649) (ls' := z_lls i) (st' := []) rfl (l_redo hl hi hR hn)
    | 18, _ => exact wp_run 1 (pc' := 662) (ls' := z_lls i) (st' := []) rfl (l_will hl hi hR hn)
    | 19, _ => exact wp_run 1 (pc' := 695) (ls' := z_lls i) (st' := []) rfl (l_mixes hl hi hR hn)
    | 20, _ => exact wp_run 1 (pc' := 738) (ls' := z_lls i) (st' := []) rfl (l_weds hl hi hR hn)
    | 21, _ => exact wp_run 1 (pc' := 761) (ls' := z_lls i) (st' := []) rfl (l_trick hl hi hR hn)
    | 22, _ => exact wp_run 1 (pc' := 824) (ls' := z_lls i) (st' := []) rfl (l_hold hl hi hR hn)
    | 23, _ => exact wp_run 1 (pc' := 877) (ls' := z_lls i) (st' := []) rfl (l_lead hl hi hR hn)
    | 24, _ => exact wp_run 1 (pc' := 930) (ls' := z_lls i) (st' := []) rfl (l_bachelors hl hi hR hn)
    | 25, _ => exact wp_run 1 (pc' := 953) (ls' := z_lls i) (st' := []) rfl (l_dear hl hi hR hn)
    | 26, _ => exact wp_run 1 (pc' := 966) (ls' := z_lls i) (st' := []) rfl (l_law hl hi hR hn)
    | 27, _ => exact wp_run 1 (pc' := 989) (ls' := z_lls i) (st' := []) rfl (l_calm hl hi hR hn)
    | 28, _ => exact wp_run 1 (pc' := 1002) (ls' := z_lls i) (st' := []) rfl (l_reach hl hi hR hn)
    | 29, _ => exact wp_run 1 (pc' := 1025) (ls' := z_lls i) (st' := []) rfl (l_wells hl hi hR hn)
    | 30, _ => exact wp_run 1 (pc' := 1038) (ls' := z_lls i) (st' := []) rfl (l_bare hl hi hR hn)
    | 31, _ => exact wp_run 1 (pc' := 1051) (ls' := z_lls i) (st' := []) rfl (l_lies hl hi hR hn)
    | 32, _ => exact wp_run 1 (pc' := 1074) (ls' := z_lls i) (st' := []) rfl (l_seen hl hi hR hn)
    | 33, _ => exact wp_run 1 (pc' := 1143) (ls' := z_lls i) (st' := []) rfl (l_untell hl hi hR hn)
    | 34, _ => exact wp_run 1 (pc' := 1166) (ls' := z_lls i) (st' := []) rfl (l_later hl hi hR hn)
    | 35, _ => exact wp_run 1 (pc' := 1189) (ls' := z_lls i) (st' := []) rfl (l_ledges hl hi hR hn)
    | 36, _ => exact wp_run 1 (pc' := 1212) (ls' := z_lls i) (st' := []) rfl (l_ask hl hi hR hn)
    | 37, _ => exact wp_run 1 (pc' := 1255) (ls' := z_lls i) (st' := []) rfl (l_image hl hi hR hn)
    | 38, _ => exact wp_run 1 (pc' := 1278) (ls' := z_lls i) (st' := []) rfl (l_back hl hi hR hn)
    | 39, _ => exact wp_run 1 (pc' := 1301) (ls' := z_lls i) (st' := []) rfl (l_about hl hi hR hn)
    | k + 40, hk => exact absurd hk (by omega)
  · exact wp_swd (pc' := 1324) rfl rfl (by omega) (hn M hR)
set_option maxRecDepth 20000 in
theorem l_loop (hl : xs.length ≤ 3072) (hP : ∀ M1, z_R M1 → P (some (0, 1)) z_LL M1) : ∀ (n : Nat) (i : Nat) (M : z_M), z_R M → xs.length ≤ i + n → i ≤ xs.length → wp xs (d + 201) mL_law 18 (z_lls i) [] z_LL M P := by
  intro n
  induction n with
  | zero =>
    intro i M hR h1 h2
    refine wp_run 2 (pc' := 20) (ls' := z_lls i) (st' := [(2, -1), (0, (i : Int))]) rfl ?_
    refine wp_sl (pc' := 21) rfl rfl ?_
    refine wp_run 2 (pc' := 24) (ls' := z_lls i) (st' := [(0, z_w ((xs.length : Int) - 6)), (0, (i : Int))]) rfl ?_
    rw [z_wid (by omega)]
    refine wp_if2 (pc' := 27) (pt := 1330) rfl rfl rfl (fun _ => ?_) (fun c => absurd (by show (i : Int) > (xs.length : Int) - 6; omega) c)
    refine wp_run 1 (pc' := 1331) (ls' := z_lls i) (st' := [(0, 1)]) rfl ?_
    exact wp_ret (c := (.ireturn, 1, 0, 0)) rfl rfl (hP M hR)
  | succ n ih =>
    intro i M hR h1 h2
    refine wp_run 2 (pc' := 20) (ls' := z_lls i) (st' := [(2, -1), (0, (i : Int))]) rfl ?_
    refine wp_sl (pc' := 21) rfl rfl ?_
    refine wp_run 2 (pc' := 24) (ls' := z_lls i) (st' := [(0, z_w ((xs.length : Int) - 6)), (0, (i : Int))]) rfl ?_
    rw [z_wid (by omega)]
    refine wp_if2 (pc' := 27) (pt := 1330) rfl rfl rfl (fun _ => ?_) (fun c => ?_)
    · refine wp_run 1 (pc' := 1331) (ls' := z_lls i) (st' := [(0, 1)]) rfl ?_
      exact wp_ret (c := (.ireturn, 1, 0, 0)) rfl rfl (hP M hR)
    · have c' : (i : Int) ≤ (xs.length : Int) - 6 := Int.not_lt.mp c
      refine wp_run 2 (pc' := 29) (ls' := z_lls i) (st' := [(0, (i : Int)), (2, -1)]) rfl ?_
      refine wp_sc (pc' := 30) rfl rfl (by omega) ?_
      refine wp_run 2 (pc' := 33) (ls' := z_lls i) (st' := [(0, z_and (xs.getD ((i : Int)).toNat 0) 63)]) rfl ?_
      refine l_sw hl (by omega) hR _ (fun M1 hR1 => ?_)
      refine wp_run 2 (pc' := 18) (ls' := [(2, -1), (2, 1), (2, 321), (0, z_w ((i : Int) + 6))]) (st' := []) rfl ?_
      rw [z_wid (by omega)]
      exact ih (i + 6) M1 hR1 (by omega) (by omega)
end
