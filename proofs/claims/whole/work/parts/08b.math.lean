/-! heads, heart, tails, what is kept, out of the rows that a boiling left -/
theorem zcut_A {pl ru c g : Nat → Int32} {t : Nat} (h : zar g (zL pl ru c t) (zN pl ru c)) : zG g 0 (min (zfo ru) (zN pl ru c)) = zA pl ru c t := zG_congr h (Nat.zero_le _) (Nat.min_le_right _ _)
theorem zcut_B {pl ru c g gy : Nat → Int32} {t : Nat} (h : zar g (zL pl ru c t) (zN pl ru c)) (hy : zar gy (zY pl ru c) (zN pl ru c)) : zG g (min (zfo ru) (zN pl ru c)) (zT gy (zN pl ru c) (zfo ru) (ru 1)) = zB pl ru c t := by
  rw [zT_congr hy]
  exact zG_congr h (Nat.min_le_right _ _) (zte_in pl ru c).2
theorem zcut_D {pl ru c g gy : Nat → Int32} {t : Nat} (h : zar g (zL pl ru c t) (zN pl ru c)) (hy : zar gy (zY pl ru c) (zN pl ru c)) : zG g (zT gy (zN pl ru c) (zfo ru) (ru 1)) (zN pl ru c) = zD pl ru c t := by
  rw [zT_congr hy]
  exact zG_congr h (zte_in pl ru c).2 (Nat.le_refl _)
theorem zcut_K {w pl ru kf g gy : Nat → Int32} {t : Nat} (h : zar g (zL pl ru (zch w kf) t) (zN pl ru (zch w kf))) (hy : zar gy (zY pl ru (zch w kf)) (zN pl ru (zch w kf))) : zG g 0 (min (zfo ru) (zN pl ru (zch w kf))) + zG g (zT gy (zN pl ru (zch w kf)) (zfo ru) (ru 1)) (zN pl ru (zch w kf)) = zK1 w pl ru kf t := by
  show _ = zA pl ru (zch w kf) t + zD pl ru (zch w kf) t
  rw [zcut_A h, zcut_D h hy]
