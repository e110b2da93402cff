theorem dfX6 : ∀ j, j < 8 → defaultValue (tyX6 j) = vp_V [.null, .null, .null, .int 0, .null, .null, .null, .null] j := by
  intro j hj
  match j, hj with
  | 0, _ => rfl
  | 1, _ => rfl
  | 2, _ => rfl
  | 3, _ => rfl
  | 4, _ => rfl
  | 5, _ => rfl
  | 6, _ => rfl
  | 7, _ => rfl
  | n + 8, h => exact absurd h (by omega)
theorem dfX7 : ∀ j, j < 15 → defaultValue (tyX7 j) = vp_V [.null, .null, .null, .null, .int 0, .null, .null, .null, .null, .null, .int 0, .int 0, .int 0, .int 0, .int 0] j := by
  intro j hj
  match j, hj with
  | 0, _ => rfl
  | 1, _ => rfl
  | 2, _ => rfl
  | 3, _ => rfl
  | 4, _ => rfl
  | 5, _ => rfl
  | 6, _ => rfl
  | 7, _ => rfl
  | 8, _ => rfl
  | 9, _ => rfl
  | 10, _ => rfl
  | 11, _ => rfl
  | 12, _ => rfl
  | 13, _ => rfl
  | 14, _ => rfl
  | n + 15, h => exact absurd h (by omega)
theorem iwL_law_6 : ∀ w ∈ wsX60, w ∈ wsL_law := inlX6
theorem iwL_law_7 : ∀ w ∈ wsX70, w ∈ wsL_law := inlX7
theorem zs0_OK : zOK zs0 0 := ⟨⟨⟨12, by decide, rfl⟩, ⟨80, by decide, rfl⟩, fun j hj => zr_of (N := 1000) (by decide) ((show ∀ j, j < 11 → 0 ≤ zpl zs0 j ∧ zpl zs0 j ≤ 1000 by decide +kernel) j hj), ⟨1, by decide, rfl⟩, ⟨200, by decide, rfl⟩, by decide, by decide⟩, ⟨⟨0, by decide, rfl⟩, ⟨0, by decide, rfl⟩⟩, rfl, by decide, fun p h => absurd h (Nat.not_lt_zero _)⟩
