set_option maxHeartbeats 4000000 in
theorem zstart_E {s : State} {b : Nat} (hts : ∀ w ∈ lw_tbl, w.before #[Value.ref b] s = true) (hgv : (Jvm.Cond.and given_1 narrow_1).before #[Value.ref b] s = true) : ∃ (D : va_G) (cI cZ : ClassId) (ts : Nat → Nat), zk_E D cI cZ ts (fun q => s.heap.size ≤ q) s s.heap := by
  obtain ⟨c0, i0, hk0⟩ := u_known (C := RX0) (T := TX0) (N := 5) (n := 5) hts inX0 (hts (.instantiable RX0 5) (by decide +kernel))
  obtain ⟨c1, i1, hk1⟩ := u_known (C := RX1) (T := TX1) (N := 7) (n := 7) hts inX1 (hts (.instantiable RX1 7) (by decide +kernel))
  obtain ⟨c2, i2, hk2⟩ := u_known (C := RX2) (T := TX2) (N := 4) (n := 4) hts inX2 (hts (.instantiable RX2 4) (by decide +kernel))
  obtain ⟨c3, i3, hk3⟩ := u_known (C := RX3) (T := TX3) (N := 6) (n := 6) hts inX3 (hts (.instantiable RX3 6) (by decide +kernel))
  obtain ⟨c4, i4, hk4⟩ := u_known (C := RX4) (T := TX4) (N := 10) (n := 10) hts inX4 (hts (.instantiable RX4 10) (by decide +kernel))
  obtain ⟨c5, i5, hk5⟩ := u_known (C := RX5) (T := TX5) (N := 6) (n := 6) hts inX5 (hts (.instantiable RX5 6) (by decide +kernel))
  obtain ⟨c6, i6, hk6⟩ := u_known (C := RX6) (T := TX6) (N := 8) (n := 8) hts inX6 (hts (.instantiable RX6 8) (by decide +kernel))
  obtain ⟨c7, i7, hk7⟩ := u_known (C := RX7) (T := TX7) (N := 15) (n := 15) hts inX7 (hts (.instantiable RX7 15) (by decide +kernel))
  obtain ⟨cI, kcI, mcI, fcI, gcI, hcI_⟩ := Cond.arrayClass_spec (args := #[Value.ref b]) (first := s) (o := none) (s := s) (idx := []) (hts (.arrayClass .int) (by decide +kernel))
  obtain ⟨cZ, kcZ, mcZ, fcZ, gcZ, hcZ⟩ := Cond.arrayClass_spec (args := #[Value.ref b]) (first := s) (o := none) (s := s) (idx := []) (hts (.arrayClass .boolean) (by decide +kernel))
  have hA : ∀ a : Nat, a < s.heap.size → ¬ (fun q => s.heap.size ≤ q) a := fun a h => Nat.not_le.mpr h
  have hs := flat_of_before _ hgv
  have hcI : s.vm.findClass "[I" = some cI := fcI
  have hini := hts (.initialized "PotCuts") (by decide +kernel)
  obtain ⟨t0, hZ0⟩ := zst_of (nm := "FIRST_WASH") (N := 4) (f := zk_fw) (A := fun q => s.heap.size ≤ q) (by decide) (hts (.laysStatic "PotCuts" "FIRST_WASH" "[I") (by decide +kernel)) hini (hs _ (by decide +kernel)) (fun j hj => by
    match j, hj with
    | 0, _ => exact hs _ (by decide +kernel)
    | 1, _ => exact hs _ (by decide +kernel)
    | 2, _ => exact hs _ (by decide +kernel)
    | 3, _ => exact hs _ (by decide +kernel)
    | n + 4, h => exact absurd h (by omega)) (hs _ (by decide +kernel)) hcI hA
  obtain ⟨t1, hZ1⟩ := zst_of (nm := "FIRST_PLACES") (N := 11) (f := zk_fp) (A := fun q => s.heap.size ≤ q) (by decide) (hts (.laysStatic "PotCuts" "FIRST_PLACES" "[I") (by decide +kernel)) hini (hs _ (by decide +kernel)) (fun j hj => by
    match j, hj with
    | 0, _ => exact hs _ (by decide +kernel)
    | 1, _ => exact hs _ (by decide +kernel)
    | 2, _ => exact hs _ (by decide +kernel)
    | 3, _ => exact hs _ (by decide +kernel)
    | 4, _ => exact hs _ (by decide +kernel)
    | 5, _ => exact hs _ (by decide +kernel)
    | 6, _ => exact hs _ (by decide +kernel)
    | 7, _ => exact hs _ (by decide +kernel)
    | 8, _ => exact hs _ (by decide +kernel)
    | 9, _ => exact hs _ (by decide +kernel)
    | 10, _ => exact hs _ (by decide +kernel)
    | n + 11, h => exact absurd h (by omega)) (hs _ (by decide +kernel)) hcI hA
  obtain ⟨t2, hZ2⟩ := zst_of (nm := "FIRST_RULES") (N := 6) (f := zk_fr) (A := fun q => s.heap.size ≤ q) (by decide) (hts (.laysStatic "PotCuts" "FIRST_RULES" "[I") (by decide +kernel)) hini (hs _ (by decide +kernel)) (fun j hj => by
    match j, hj with
    | 0, _ => exact hs _ (by decide +kernel)
    | 1, _ => exact hs _ (by decide +kernel)
    | 2, _ => exact hs _ (by decide +kernel)
    | 3, _ => exact hs _ (by decide +kernel)
    | 4, _ => exact hs _ (by decide +kernel)
    | 5, _ => exact hs _ (by decide +kernel)
    | n + 6, h => exact absurd h (by omega)) (hs _ (by decide +kernel)) hcI hA
  obtain ⟨t3, hZ3⟩ := zst_of (nm := "LEAST_RULES") (N := 6) (f := zk_lr) (A := fun q => s.heap.size ≤ q) (by decide) (hts (.laysStatic "PotCuts" "LEAST_RULES" "[I") (by decide +kernel)) hini (hs _ (by decide +kernel)) (fun j hj => by
    match j, hj with
    | 0, _ => exact hs _ (by decide +kernel)
    | 1, _ => exact hs _ (by decide +kernel)
    | 2, _ => exact hs _ (by decide +kernel)
    | 3, _ => exact hs _ (by decide +kernel)
    | 4, _ => exact hs _ (by decide +kernel)
    | 5, _ => exact hs _ (by decide +kernel)
    | n + 6, h => exact absurd h (by omega)) (hs _ (by decide +kernel)) hcI hA
  obtain ⟨t4, hZ4⟩ := zst_of (nm := "MOST_RULES") (N := 6) (f := zk_mr) (A := fun q => s.heap.size ≤ q) (by decide) (hts (.laysStatic "PotCuts" "MOST_RULES" "[I") (by decide +kernel)) hini (hs _ (by decide +kernel)) (fun j hj => by
    match j, hj with
    | 0, _ => exact hs _ (by decide +kernel)
    | 1, _ => exact hs _ (by decide +kernel)
    | 2, _ => exact hs _ (by decide +kernel)
    | 3, _ => exact hs _ (by decide +kernel)
    | 4, _ => exact hs _ (by decide +kernel)
    | 5, _ => exact hs _ (by decide +kernel)
    | n + 6, h => exact absurd h (by omega)) (hs _ (by decide +kernel)) hcI hA
  refine ⟨(fun k => match k with | 0 => c0 | 1 => c1 | 2 => c2 | 3 => c3 | 4 => c4 | 5 => c5 | 6 => c6 | _ => c7, fun k => match k with | 0 => i0 | 1 => i1 | 2 => i2 | 3 => i3 | 4 => i4 | 5 => i5 | 6 => i6 | _ => i7), cI, cZ, (fun k => match k with | 0 => t0 | 1 => t1 | 2 => t2 | 3 => t3 | _ => t4), ⟨?_, ?_⟩, fun w hw => va_Nw.of (zk_nest_on w hw) (hts w (zk_nest_in w hw)), hZ0, hZ1, hZ2, hZ3, hZ4⟩
  · intro k q hq
    match k, hq with
    | 0, hq => cases hq; exact hk0
    | 1, hq => cases hq; exact hk1
    | 2, hq => cases hq; exact hk2
    | 3, hq => cases hq; exact hk3
    | 4, hq => cases hq; exact hk4
    | 5, hq => cases hq; exact hk5
    | 6, hq => cases hq; exact hk6
    | 7, hq => cases hq; exact hk7
    | k + 8, hq => simp [vwCl] at hq
  · intro k q hq
    match k, hq with
    | 0, hq => cases hq; exact ⟨fun n z => ⟨fun k h => (by cases h), kcI, gcI, mcI, hcI_⟩, fcI⟩
    | 1, hq => cases hq; exact ⟨fun n z => ⟨fun k h => (by cases h), kcZ, gcZ, mcZ, hcZ⟩, fcZ⟩
    | k + 2, hq => simp at hq
