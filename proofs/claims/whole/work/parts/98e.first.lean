/-! WHAT HOLDS OF THE FIRST MEMORY -/
def y_R0 : y_T := y_RA ++ y_RX
def y_M0 : z_M := y_of y_R0
theorem y_all (n : Nat) (p : Int → Prop) (h : ∀ k ∈ List.range n, p (k : Int)) : ∀ k : Int, 0 ≤ k → k < (n : Int) → p k := by
  intro k h1 h2
  obtain ⟨j, rfl⟩ := Int.eq_ofNat_of_zero_le h1
  exact h j (List.mem_range.mpr (by omega))
theorem y_out {R : y_T} {q : Int} {n : Nat} (h : (R.getD (q - 1).toNat []).length = n) {k : Int} (hk : ¬ (0 ≤ k ∧ k < (n : Int))) : y_of R q k = 0 := by
  show y_rd R q k = 0
  unfold y_rd
  split
  · rw [List.getD_eq_getElem?_getD, List.getElem?_eq_none (by omega)]
    rfl
  · rfl
theorem y_zer {R : y_T} {q : Int} {n : Nat} (h : R.getD (q - 1).toNat [] = List.replicate n 0) (k : Int) : y_of R q k = 0 := by
  show y_rd R q k = 0
  unfold y_rd
  split
  · rw [h, List.getD_eq_getElem?_getD, List.getElem?_replicate]
    split <;> rfl
  · rfl
theorem y_46 : y_M0 321 46 = 4 := by decide +kernel
theorem y_47 : y_M0 321 47 = 4 := by decide +kernel
theorem y_48 : y_M0 321 48 = 0 := by decide +kernel
theorem y_59 : y_M0 321 59 = 0 := by decide +kernel
theorem y_10 : y_M0 1 0 = 2 := by decide +kernel
theorem y_11 : y_M0 1 1 = 13 := by decide +kernel
theorem y_12 : y_M0 1 2 = 24 := by decide +kernel
theorem y_64 : y_M0 321 64 = 0 := by decide +kernel
theorem y_65 : y_M0 321 65 = 0 := by decide +kernel
theorem y_68 : y_M0 321 68 = 0 := by decide +kernel
theorem y_76 : y_M0 321 76 = 0 := by decide +kernel
theorem y_fix : z_fix y_M0 := by
  show ∀ p ∈ z_fixl, y_M0 p.1 p.2.1 = p.2.2
  decide +kernel
theorem y_gor2 : z_gor y_M0 2 := ⟨Or.inl rfl, y_all 10 (fun k => y_M0 2 k = 2 + (k + 1)) (by decide +kernel)⟩
theorem y_gor13 : z_gor y_M0 13 := ⟨Or.inr rfl, y_all 10 (fun k => y_M0 13 k = 13 + (k + 1)) (by decide +kernel)⟩
theorem y_her24 : z_her y_M0 24 := ⟨Or.inl rfl, y_all 5 (fun k => y_M0 24 k = 24 + (k + 1)) (by decide +kernel)⟩
theorem y_mc : z_mc y_M0 := by
  refine ⟨by decide +kernel, by decide +kernel, by decide +kernel, by decide +kernel, by decide +kernel, by decide +kernel, fun f h1 h2 => ?_⟩
  rw [y_48] at h2
  omega
theorem y_gg : z_gg y_M0 2 := by
  refine ⟨y_gor2, by decide +kernel, fun f h1 h2 => ?_, fun c h1 h2 => ?_, fun _ => by decide +kernel, fun h => absurd y_59 h⟩
  · rw [y_48] at h2
    omega
  · rw [y_46, y_47] at h2
    exact y_all 16 (fun c => y_M0 (2 + 9) (4 * c) = (if c / y_M0 321 46 > 0 then c - y_M0 321 46 else -1) ∧ y_M0 (2 + 9) (4 * c + 1) = (if c % y_M0 321 46 > 0 then c - 1 else -1) ∧
      y_M0 (2 + 9) (4 * c + 2) = (if c % y_M0 321 46 < y_M0 321 46 - 1 then c + 1 else -1) ∧ y_M0 (2 + 9) (4 * c + 3) = (if c / y_M0 321 46 < y_M0 321 47 - 1 then c + y_M0 321 46 else -1)) (by decide +kernel) c h1 (by omega)
theorem y_sn : z_sn y_M0 999 (y_M0 342) := by
  refine ⟨fun f h1 h2 => ?_, fun c h1 h2 => ?_, fun k h1 h2 => ?_, by decide +kernel, by decide +kernel, fun a b h1 h2 => ?_⟩
  · rw [y_48] at h2
    omega
  · exact y_all 25 (fun c => (0 ≤ y_M0 342 (54 + c) ∧ y_M0 342 (54 + c) ≤ 9) ∧ (0 ≤ y_M0 342 (79 + c) ∧ y_M0 342 (79 + c) ≤ 9) ∧ (y_M0 321 46 * y_M0 321 47 ≤ c → y_M0 342 (54 + c) = 0)) (by decide +kernel) c h1 h2
  · exact y_all 54 (fun k => 0 ≤ y_M0 342 k ∧ y_M0 342 k ≤ y_M0 342 104 ∨ k < 18) (by decide +kernel) k (by omega) h2 |>.resolve_right (by omega)
  · rw [y_48] at h2
    omega
theorem y_hrd : z_hrd y_M0 24 (y_M0 342) := by
  refine ⟨y_her24, fun f h1 h2 => ?_, fun c h1 h2 => ?_, fun a b h1 h2 h3 => ?_, ?_, by decide +kernel, by decide +kernel⟩
  · rw [y_48] at h2
    omega
  · exact y_all 25 (fun c => y_M0 (24 + 3) c = y_M0 342 (54 + c) ∧ y_M0 (24 + 4) c = y_M0 342 (79 + c)) (by decide +kernel) c h1 h2
  · rw [y_48] at h3
    omega
  · rw [y_48]
    show y_M0 24 5 = 0
    decide +kernel
theorem y_row : ∀ i : Int, 0 ≤ i → i < 40 → y_M0 48 i = 49 + 6 * i ∧ ∀ k ∈ List.range 5, y_M0 (49 + 6 * i) (k : Int) = 49 + 6 * i + ((k : Int) + 1) := y_all 40 (fun i => y_M0 48 i = 49 + 6 * i ∧ ∀ k ∈ List.range 5, y_M0 (49 + 6 * i) (k : Int) = 49 + 6 * i + ((k : Int) + 1)) (by decide +kernel)
theorem y_R : z_R y_M0 := by
  refine ⟨⟨y_fix, y_mc, fun h => absurd y_59 h, fun a b h1 h2 => ?_⟩, ⟨by decide +kernel, ?_, ?_, by decide +kernel, by decide +kernel, by decide +kernel⟩, ⟨?_, ?_, y_sn⟩, ⟨fun i h1 h2 => ?_, fun i j h1 h2 h3 => ?_, by decide +kernel, by decide +kernel, fun i h1 h2 => ?_⟩, fun b h1 h2 => ?_, ⟨by decide +kernel, by decide +kernel, fun i h1 h2 => ?_⟩, ⟨by decide +kernel, by decide +kernel, by decide +kernel, fun i h1 h2 => ?_⟩, ⟨by decide +kernel, by decide +kernel, fun i h1 h2 => ?_, fun i hi => ?_⟩, fun k hk => ⟨?_, ?_⟩⟩
  · rw [y_48] at h2
    omega
  · rw [y_10]
    exact y_gg
  · rw [y_11]
    exact y_gor13
  · rw [y_12]
    exact Or.inl rfl
  · rw [y_12]
    exact y_hrd
  · obtain ⟨a1, a2⟩ := y_row i h1 h2
    rw [a1, y_12]
    refine ⟨Or.inr (by omega), ⟨Or.inr (Or.inr (Or.inl (by omega))), y_all 5 (fun k => y_M0 (49 + 6 * i) k = 49 + 6 * i + (k + 1)) a2⟩, by omega⟩
  · rw [(y_row i h1 (by omega)).1, (y_row j (by omega) h3).1]
    omega
  · rw [y_64, y_65] at h2
    omega
  · have : b = 0 ∨ b = 1 ∨ b = 2 := by omega
    have w : ∀ b : Int, (y_M0 356 b = 0 ∧ ¬ z_bt (y_M0 1 12) b) → (y_M0 356 b = 0 ∨ y_M0 356 b = 1) ∧ (y_M0 356 b = 1 ↔ z_bt (y_M0 1 12) b) ∧ (y_M0 356 b = 1 → z_hrd y_M0 (303 + 6 * b) (fun k => y_M0 357 (106 * b + k)) ∧ z_sn y_M0 999 (fun k => y_M0 357 (106 * b + k))) := by
      intro b hb
      have h1 : ¬ y_M0 356 b = 1 := by omega
      exact ⟨Or.inl hb.1, ⟨fun h => absurd h h1, fun h => absurd h hb.2⟩, fun h => absurd h h1⟩
    rcases this with rfl | rfl | rfl
    · exact w 0 ⟨by decide +kernel, fun h => absurd (show z_and (z_shr (y_M0 1 12) 0) 1 = 0 by decide +kernel) h⟩
    · exact w 1 ⟨by decide +kernel, fun h => absurd (show z_and (z_shr (y_M0 1 12) 1) 1 = 0 by decide +kernel) h⟩
    · exact w 2 ⟨by decide +kernel, fun h => absurd (show z_and (z_shr (y_M0 1 12) 2) 1 = 0 by decide +kernel) h⟩
  · rw [y_76] at h2
    omega
  · rw [y_68] at h2
    omega
  · have a : y_M0 322 i = 0 := y_zer (n := 1600) (by decide +kernel) i
    have b : y_M0 31 i = 0 := y_zer (n := 1600) (by decide +kernel) i
    rw [a, b]
    exact ⟨by omega, rfl⟩
  · exact (by decide +kernel : ∀ i ∈ List.range 24, y_M0 32 ((i : Nat) : Int) = z_rsv.getD i 0) i (List.mem_range.mpr hi)
  · exact y_out (n := 106) (by decide +kernel) hk
  · exact y_out (n := 106) (by decide +kernel) hk
theorem y_nil : y_of [] = fun _ _ => 0 := by
  funext a b
  show y_rd [] a b = 0
  unfold y_rd
  split <;> rfl
theorem y_lenA : y_RA.length = 320 := by decide +kernel
theorem y_lenL : (z_LL.take 320).length = 320 := by decide +kernel
theorem z_pure : z_goal := by
  intro xs hxs hlen
  have key : wp xs 700 mL_law 0 [(2, -1), (3, 0), (3, 0), (3, 0)] [] [] (fun _ _ => 0) (fun r L' _ => r = some (0, 1) ∧ L' = z_LL) := by
    have e0 : (fun _ _ => 0 : z_M) = y_of [] := y_nil.symm
    rw [e0]
    refine wp_one (c := (.new 7, 3, 9, 0)) (S := (3, [(2, -1), (3, 0), (3, 0), (3, 0)], [(2, 1)], [(14, 14)], y_of [List.replicate 14 0])) rfl ?_ ?_
    · show some _ = some _
      have e1 : y_of [List.replicate 14 0] = z_clr (y_of []) 1 := y_new [] 14
      rw [e1]
      rfl
    refine wp_run 1 (pc' := 4) (ls' := [(2, -1), (3, 0), (3, 0), (3, 0)]) (st' := [(2, 1), (2, 1)]) rfl ?_
    refine wp_callv (pc' := 7) (ν := mX9_init) rfl rfl rfl rfl rfl rfl ?_
    refine wp.deep (y_runA ?_) (show 600 ≤ 699 by omega)
    refine wp_run 1 (pc' := 8) (ls' := [(2, -1), (2, 1), (3, 0), (3, 0)]) (st' := []) rfl ?_
    refine wp_one (c := (.new 10, 3, 10, 0)) (S := (11, [(2, -1), (2, 1), (3, 0), (3, 0)], [(2, 321)], z_LL.take 320 ++ [(15, 81)], y_of (y_RA ++ [List.replicate 81 0]))) rfl ?_ ?_
    · show some (_, _, (2, ((z_LL.take 320).length : Int) + 1) :: [], _, z_clr (y_of y_RA) (((z_LL.take 320).length : Int) + 1)) = some _
      rw [y_new, y_lenA, y_lenL]
      rfl
    refine wp_run 1 (pc' := 12) (ls' := [(2, -1), (2, 1), (3, 0), (3, 0)]) (st' := [(2, 321), (2, 321)]) rfl ?_
    refine wp_callv (pc' := 15) (ν := mX10_init) (as := [(2, 321)]) (rest := [(2, 321)]) (ls1 := [(2, 321), (3, 0)]) rfl rfl rfl rfl (by decide +kernel) rfl ?_
    refine wp.deep (y_wp (by rw [List.length_append, List.length_append, y_lenA, y_lenL]; rfl) y_runB ?_) (show 600 ≤ 699 by omega)
    refine wp_run 3 (pc' := 18) (ls' := z_lls 0) (st' := []) rfl ?_
    exact l_loop (d := 499) hlen (fun M1 _ => ⟨rfl, rfl⟩) xs.length 0 y_M0 y_R (by omega) (by omega)
  obtain ⟨n, r, L', M', h, rfl, rfl⟩ := key
  exact ⟨n, z_LL, M', h, by decide +kernel, by decide +kernel⟩
