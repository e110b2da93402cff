set_option maxHeartbeats 4000000 in
set_option maxRecDepth 100000 in
theorem c_X7_tryCuts (l : Launch) (D : va_G) (cI cZ : ClassId) (ts : Nat → Nat) (mo : Nat) (st : Nat) (im : Nat) (iz : Nat) (go : Nat) (pt : Nat) (ch : Nat) (su : Nat) (kp : Nat) (hr : Nat) (bf : Int32) (bc : Int32) (bs : Int32) (bt : Int32) (gd : Int32) (sg : Nat → Int32) (fg : Nat → Int32) (fs : Nat → Int32) (cc : Nat → Int32) (b : Nat → Int32) (fo : Nat) (gg : Nat) (cu : Int32) (hgn : zgn (zpl sg) (zru sg) cc fg (zN (zpl sg) (zru sg) cc)) (hfo : fo < 2 ^ 31) (hp1 : ¬ zBc (zpl sg) (zru sg) cc fo cu 1 < 0) (hgg : gg < 2 ^ 30) (hrb : zrb b gd bf bc bs bt gg) : zk_Mv l yX7_tryCuts wsX7_tryCuts ({ frames := 3, cells := 0, slots := 0, locals := 66 } : Room) D cI cZ ts [.ref mo, .int (nI fo), .int cu] [(mo, .inr (7, [.ref st, .ref im, .ref iz, .ref go, .int (nI (zN (zpl sg) (zru sg) cc)), .ref pt, .ref ch, .ref su, .ref kp, .ref hr, .int bf, .int bc, .int bs, .int bt, .int gd])), (st, .inl (cI, 75, .inl sg)), (go, .inl (cI, 160, .inl fg)), (su, .inl (cI, 4, .inl fs))] (fun (u : Int32 × Int32 × Int32 × Int32 × Int32 × (Nat → Int32) × Nat) => u.2.2.2.2.2.2 ≤ gg + 1 ∧ zrb (zw b (zBc (zpl sg) (zru sg) cc fo cu) (nI fo) cu (sg 20)) u.2.2.2.2.1 u.1 u.2.1 u.2.2.1 u.2.2.2.1 u.2.2.2.2.2.2) (fun (u : Int32 × Int32 × Int32 × Int32 × Int32 × (Nat → Int32) × Nat) => [(mo, .inr (7, [.ref st, .ref im, .ref iz, .ref go, .int (nI (zN (zpl sg) (zru sg) cc)), .ref pt, .ref ch, .ref su, .ref kp, .ref hr, .int u.1, .int u.2.1, .int u.2.2.1, .int u.2.2.2.1, .int u.2.2.2.2.1])), (st, .inl (cI, 75, .inl sg)), (go, .inl (cI, 160, .inl fg)), (su, .inl (cI, 4, .inl u.2.2.2.2.2.1))]) 0 0 := by
  refine zk_Mv.of (cc := cX7_tryCuts) (maxL := 3) RX7 (by decide) rfl (Nat.le_of_ble_eq_true rfl) rfl ?_
  intro p e s m below meth c A Q H locs ls X hE hA hin hP hD hS hret hl
  obtain ⟨hx, hb, hml, hown, hts⟩ := id X
  have hl : lv_has ls 3 [(0, .ref mo), (1, .int (nI fo)), (2, .int cu)] := hl
  refine lv_aload_n hx hb dX7_tryCuts_0 rfl (lv_at hl 0 rfl) ?_
  refine lv_iload_n hx hb dX7_tryCuts_1 rfl (lv_at hl 1 rfl) ?_
  refine lv_iload_n hx hb dX7_tryCuts_2 rfl (lv_at hl 2 rfl) ?_
  refine zk_cVv (rest := []) (wr := [(st, .inl (cI, 75, .inl sg))]) X hE hA (c_X7_sumHeart l D cI cZ ts mo st im iz go pt ch su kp hr bf bc bs bt gd fg fs (zN (zpl sg) (zru sg) cc) fo cu (zN_le _ _ _) hfo) (cwV 2 hts gX7_tryCuts_X7_sumHeart rfl rfl rfl hdX7_sumHeart ⟨Nat.le_of_ble_eq_true rfl, Nat.le_of_ble_eq_true rfl⟩) dX7_tryCuts_3 hP hD hS [0, 2, 3] [1] ⟨rfl, rfl, rfl, trivial⟩ ⟨rfl, trivial⟩ (by decide +kernel) (by decide +kernel) (by decide +kernel) 7 rfl rfl rfl hl rfl (Nat.le_of_ble_eq_true rfl) ⟨Nat.le_of_ble_eq_true rfl, Nat.le_of_ble_eq_true rfl⟩ (fun u_3 H locs hw_3 hP hD hS => ?_)
  obtain ⟨ft_1, rfl⟩ : ∃ z, z = u_3 := ⟨_, rfl⟩
  have hP : va_P D vwCl [(st, .inl (cI, 75, .inl sg)), (mo, .inr (7, [.ref st, .ref im, .ref iz, .ref go, .int (nI (zN (zpl sg) (zru sg) cc)), .ref pt, .ref ch, .ref su, .ref kp, .ref hr, .int bf, .int bc, .int bs, .int bt, .int gd])), (go, .inl (cI, 160, .inl fg)), (su, .inl (cI, 4, .inl ft_1))] H := hP
  have hD : va_D A [(st, .inl (cI, 75, .inl sg)), (mo, .inr (7, [.ref st, .ref im, .ref iz, .ref go, .int (nI (zN (zpl sg) (zru sg) cc)), .ref pt, .ref ch, .ref su, .ref kp, .ref hr, .int bf, .int bc, .int bs, .int bt, .int gd])), (go, .inl (cI, 160, .inl fg)), (su, .inl (cI, 4, .inl ft_1))] := hD
  have hw_3 : zar ft_1 (fun t => zG (zcm fg t) (min fo (zN (zpl sg) (zru sg) cc)) (zT (fun j => fg (4 * j)) (zN (zpl sg) (zru sg) cc) fo cu)) 4 := hw_3
  have q0 : ft_1 0 = zBc (zpl sg) (zru sg) cc fo cu 0 := (hw_3 0 (by decide)).trans (zheart_run (by decide) hgn)
  have q1 : ft_1 1 = zBc (zpl sg) (zru sg) cc fo cu 1 := (hw_3 1 (by decide)).trans (zheart_run (by decide) hgn)
  have q2 : ft_1 2 = zBc (zpl sg) (zru sg) cc fo cu 2 := (hw_3 2 (by decide)).trans (zheart_run (by decide) hgn)
  have q3 : ft_1 3 = zBc (zpl sg) (zru sg) cc fo cu 3 := (hw_3 3 (by decide)).trans (zheart_run (by decide) hgn)
  have hn0 : ¬ ft_1 0 < 0 := by rw [q0]; exact zBc_0p _ _ _ _ _
  have q5 : zl4 5 ft_1 = zq (zBc (zpl sg) (zru sg) cc fo cu 2 + zBc (zpl sg) (zru sg) cc fo cu 3) (zBc (zpl sg) (zru sg) cc fo cu 0) := by unfold zl4; rw [q0, q1, q2, q3]; rfl
  refine lv_aload_n hx hb dX7_tryCuts_6 rfl (lv_at hl 0 rfl) ?_
  refine zk_get X hE sX7_tryCuts_7 hP 1 rfl rfl ?_
  refine lv_iconst (v := 0) hx hb dX7_tryCuts_10 (by decide) ?_
  refine zk_ald hx hb hE hP 3 0 rfl rfl (Nat.le_of_ble_eq_true rfl) (Nat.le_of_ble_eq_true rfl) dX7_tryCuts_11 ?_
  refine lv_if_le (tgt := 82) hx hb dX7_tryCuts_12 (by decide) (fun c_12 => ?_) (fun c_12 => ?_)
  · have r12 : zBc (zpl sg) (zru sg) cc fo cu 0 ≤ 0 := by rw [← q0]; exact c_12
    have hq := hret  (bf, bc, bs, bt, gd, ft_1, gg) H locs 82 ls
    dsimp only at hq
    exact hq (by (try dsimp only); first | exact ⟨Nat.le_succ _, zrb_skip (Or.inl r12) hrb⟩ | exact ⟨Nat.le_succ _, zrb_skip (Or.inr c_27) hrb⟩ | exact ⟨Nat.le_refl _, zrb_no hgg r12 c_27 hp1 c_50 hrb⟩ | (rw [q1, q5]; exact ⟨Nat.le_refl _, zrb_up hgg r12 c_27 c_50 hrb⟩)) (zk_subP hP [1, 0, 2, 3] ⟨rfl, rfl, rfl, rfl, trivial⟩) (zk_subD hD [1, 0, 2, 3] (by decide +kernel) ⟨rfl, rfl, rfl, rfl, trivial⟩) hS dX7_tryCuts_82
  · have r12 : ¬ zBc (zpl sg) (zru sg) cc fo cu 0 ≤ 0 := by rw [← q0]; exact c_12
    refine lv_aload_n hx hb dX7_tryCuts_15 rfl (lv_at hl 0 rfl) ?_
    refine lv_iconst (v := 5) hx hb dX7_tryCuts_16 (by decide) ?_
    refine zk_cVi (rest := []) (wr := [(st, .inl (cI, 75, .inl sg)), (go, .inl (cI, 160, .inl fg))]) X hE hA (c_X7_ofSum l D cI cZ ts mo st im iz go pt ch su kp hr (nI (zN (zpl sg) (zru sg) cc)) bf bc bs bt gd ft_1 5 hn0) (cwV 1 hts gX7_tryCuts_X7_ofSum rfl rfl rfl hdX7_ofSum ⟨Nat.le_of_ble_eq_true rfl, Nat.le_of_ble_eq_true rfl⟩) dX7_tryCuts_17 hP hD hS [1, 3] [0, 2] ⟨rfl, rfl, trivial⟩ ⟨rfl, rfl, trivial⟩ (by decide +kernel) (by decide +kernel) (by decide +kernel) 7 rfl rfl rfl hl rfl (Nat.le_of_ble_eq_true rfl) ⟨Nat.le_of_ble_eq_true rfl, Nat.le_of_ble_eq_true rfl⟩ (fun r_17 _ H locs hw_17 hP hD hS => ?_)
    have hP : va_P D vwCl [(st, .inl (cI, 75, .inl sg)), (go, .inl (cI, 160, .inl fg)), (mo, .inr (7, [.ref st, .ref im, .ref iz, .ref go, .int (nI (zN (zpl sg) (zru sg) cc)), .ref pt, .ref ch, .ref su, .ref kp, .ref hr, .int bf, .int bc, .int bs, .int bt, .int gd])), (su, .inl (cI, 4, .inl ft_1))] H := hP
    have hD : va_D A [(st, .inl (cI, 75, .inl sg)), (go, .inl (cI, 160, .inl fg)), (mo, .inr (7, [.ref st, .ref im, .ref iz, .ref go, .int (nI (zN (zpl sg) (zru sg) cc)), .ref pt, .ref ch, .ref su, .ref kp, .ref hr, .int bf, .int bc, .int bs, .int bt, .int gd])), (su, .inl (cI, 4, .inl ft_1))] := hD
    obtain rfl : r_17 = (zl4 5 ft_1) := hw_17
    refine lv_aload_n hx hb dX7_tryCuts_20 rfl (lv_at hl 0 rfl) ?_
    refine zk_get X hE sX7_tryCuts_21 hP 2 rfl rfl ?_
    refine lv_bipush (v := 20) hx hb dX7_tryCuts_24 (by decide) ?_
    refine zk_ald hx hb hE hP 0 20 rfl rfl (Nat.le_of_ble_eq_true rfl) (Nat.le_of_ble_eq_true rfl) dX7_tryCuts_26 ?_
    refine lv_icmp_gt (tgt := 82) hx hb dX7_tryCuts_27 (by decide) (fun c_27 => ?_) (fun c_27 => ?_)
    · rw [q5] at c_27
      have hq := hret  (bf, bc, bs, bt, gd, ft_1, gg) H locs 82 ls
      dsimp only at hq
      exact hq (by (try dsimp only); first | exact ⟨Nat.le_succ _, zrb_skip (Or.inl r12) hrb⟩ | exact ⟨Nat.le_succ _, zrb_skip (Or.inr c_27) hrb⟩ | exact ⟨Nat.le_refl _, zrb_no hgg r12 c_27 hp1 c_50 hrb⟩ | (rw [q1, q5]; exact ⟨Nat.le_refl _, zrb_up hgg r12 c_27 c_50 hrb⟩)) (zk_subP hP [2, 0, 1, 3] ⟨rfl, rfl, rfl, rfl, trivial⟩) (zk_subD hD [2, 0, 1, 3] (by decide +kernel) ⟨rfl, rfl, rfl, rfl, trivial⟩) hS dX7_tryCuts_82
    · rw [q5] at c_27
      refine lv_aload_n hx hb dX7_tryCuts_30 rfl (lv_at hl 0 rfl) ?_
      refine lv_dup hx hb dX7_tryCuts_31 rfl ?_
      refine zk_get X hE sX7_tryCuts_32 hP 2 rfl rfl ?_
      refine lv_iconst (v := 1) hx hb dX7_tryCuts_35 (by decide) ?_
      refine lv_iadd hx hb dX7_tryCuts_36 ?_
      refine zk_put (ws' := [(st, .inl (cI, 75, .inl sg)), (go, .inl (cI, 160, .inl fg)), (mo, .inr (7, [.ref st, .ref im, .ref iz, .ref go, .int (nI (zN (zpl sg) (zru sg) cc)), .ref pt, .ref ch, .ref su, .ref kp, .ref hr, .int bf, .int bc, .int bs, .int bt, .int (gd + 1)])), (su, .inl (cI, 4, .inl ft_1))]) X hE sX7_tryCuts_37 hP hD hS 2 rfl (Nat.le_of_ble_eq_true rfl) rfl (fun H locs hP hD hS => ?_)
      refine lv_aload_n hx hb dX7_tryCuts_40 rfl (lv_at hl 0 rfl) ?_
      refine zk_get X hE sX7_tryCuts_41 hP 2 rfl rfl ?_
      refine lv_iconst (v := 1) hx hb dX7_tryCuts_44 (by decide) ?_
      refine zk_ald hx hb hE hP 3 1 rfl rfl (Nat.le_of_ble_eq_true rfl) (Nat.le_of_ble_eq_true rfl) dX7_tryCuts_45 ?_
      refine lv_aload_n hx hb dX7_tryCuts_46 rfl (lv_at hl 0 rfl) ?_
      refine zk_get X hE sX7_tryCuts_47 hP 2 rfl rfl ?_
      refine lv_icmp_le (tgt := 82) hx hb dX7_tryCuts_50 (by decide) (fun c_50 => ?_) (fun c_50 => ?_)
      · rw [q1] at c_50
        have hq := hret  (bf, bc, bs, bt, gd + 1, ft_1, gg + 1) H locs 82 ls
        dsimp only at hq
        exact hq (by (try dsimp only); first | exact ⟨Nat.le_succ _, zrb_skip (Or.inl r12) hrb⟩ | exact ⟨Nat.le_succ _, zrb_skip (Or.inr c_27) hrb⟩ | exact ⟨Nat.le_refl _, zrb_no hgg r12 c_27 hp1 c_50 hrb⟩ | (rw [q1, q5]; exact ⟨Nat.le_refl _, zrb_up hgg r12 c_27 c_50 hrb⟩)) (zk_subP hP [2, 0, 1, 3] ⟨rfl, rfl, rfl, rfl, trivial⟩) (zk_subD hD [2, 0, 1, 3] (by decide +kernel) ⟨rfl, rfl, rfl, rfl, trivial⟩) hS dX7_tryCuts_82
      · rw [q1] at c_50
        refine lv_aload_n hx hb dX7_tryCuts_53 rfl (lv_at hl 0 rfl) ?_
        refine lv_aload_n hx hb dX7_tryCuts_54 rfl (lv_at hl 0 rfl) ?_
        refine zk_get X hE sX7_tryCuts_55 hP 2 rfl rfl ?_
        refine lv_iconst (v := 1) hx hb dX7_tryCuts_58 (by decide) ?_
        refine zk_ald hx hb hE hP 3 1 rfl rfl (Nat.le_of_ble_eq_true rfl) (Nat.le_of_ble_eq_true rfl) dX7_tryCuts_59 ?_
        refine zk_put (ws' := [(st, .inl (cI, 75, .inl sg)), (go, .inl (cI, 160, .inl fg)), (mo, .inr (7, [.ref st, .ref im, .ref iz, .ref go, .int (nI (zN (zpl sg) (zru sg) cc)), .ref pt, .ref ch, .ref su, .ref kp, .ref hr, .int bf, .int bc, .int (ft_1 1), .int bt, .int (gd + 1)])), (su, .inl (cI, 4, .inl ft_1))]) X hE sX7_tryCuts_60 hP hD hS 2 rfl (Nat.le_of_ble_eq_true rfl) rfl (fun H locs hP hD hS => ?_)
        refine lv_aload_n hx hb dX7_tryCuts_63 rfl (lv_at hl 0 rfl) ?_
        refine lv_aload_n hx hb dX7_tryCuts_64 rfl (lv_at hl 0 rfl) ?_
        refine lv_iconst (v := 5) hx hb dX7_tryCuts_65 (by decide) ?_
        refine zk_cVi (rest := [.ref mo]) (wr := [(st, .inl (cI, 75, .inl sg)), (go, .inl (cI, 160, .inl fg))]) X hE hA (c_X7_ofSum l D cI cZ ts mo st im iz go pt ch su kp hr (nI (zN (zpl sg) (zru sg) cc)) bf bc (ft_1 1) bt (gd + 1) ft_1 5 hn0) (cwV 1 hts gX7_tryCuts_X7_ofSum rfl rfl rfl hdX7_ofSum ⟨Nat.le_of_ble_eq_true rfl, Nat.le_of_ble_eq_true rfl⟩) dX7_tryCuts_66 hP hD hS [2, 3] [0, 1] ⟨rfl, rfl, trivial⟩ ⟨rfl, rfl, trivial⟩ (by decide +kernel) (by decide +kernel) (by decide +kernel) 7 rfl rfl rfl hl rfl (Nat.le_of_ble_eq_true rfl) ⟨Nat.le_of_ble_eq_true rfl, Nat.le_of_ble_eq_true rfl⟩ (fun r_66 _ H locs hw_66 hP hD hS => ?_)
        have hP : va_P D vwCl [(st, .inl (cI, 75, .inl sg)), (go, .inl (cI, 160, .inl fg)), (mo, .inr (7, [.ref st, .ref im, .ref iz, .ref go, .int (nI (zN (zpl sg) (zru sg) cc)), .ref pt, .ref ch, .ref su, .ref kp, .ref hr, .int bf, .int bc, .int (ft_1 1), .int bt, .int (gd + 1)])), (su, .inl (cI, 4, .inl ft_1))] H := hP
        have hD : va_D A [(st, .inl (cI, 75, .inl sg)), (go, .inl (cI, 160, .inl fg)), (mo, .inr (7, [.ref st, .ref im, .ref iz, .ref go, .int (nI (zN (zpl sg) (zru sg) cc)), .ref pt, .ref ch, .ref su, .ref kp, .ref hr, .int bf, .int bc, .int (ft_1 1), .int bt, .int (gd + 1)])), (su, .inl (cI, 4, .inl ft_1))] := hD
        obtain rfl : r_66 = (zl4 5 ft_1) := hw_66
        refine zk_put (ws' := [(st, .inl (cI, 75, .inl sg)), (go, .inl (cI, 160, .inl fg)), (mo, .inr (7, [.ref st, .ref im, .ref iz, .ref go, .int (nI (zN (zpl sg) (zru sg) cc)), .ref pt, .ref ch, .ref su, .ref kp, .ref hr, .int bf, .int bc, .int (ft_1 1), .int (zl4 5 ft_1), .int (gd + 1)])), (su, .inl (cI, 4, .inl ft_1))]) X hE sX7_tryCuts_69 hP hD hS 2 rfl (Nat.le_of_ble_eq_true rfl) rfl (fun H locs hP hD hS => ?_)
        refine lv_aload_n hx hb dX7_tryCuts_72 rfl (lv_at hl 0 rfl) ?_
        refine lv_iload_n hx hb dX7_tryCuts_73 rfl (lv_at hl 1 rfl) ?_
        refine zk_put (ws' := [(st, .inl (cI, 75, .inl sg)), (go, .inl (cI, 160, .inl fg)), (mo, .inr (7, [.ref st, .ref im, .ref iz, .ref go, .int (nI (zN (zpl sg) (zru sg) cc)), .ref pt, .ref ch, .ref su, .ref kp, .ref hr, .int (nI fo), .int bc, .int (ft_1 1), .int (zl4 5 ft_1), .int (gd + 1)])), (su, .inl (cI, 4, .inl ft_1))]) X hE sX7_tryCuts_74 hP hD hS 2 rfl (Nat.le_of_ble_eq_true rfl) rfl (fun H locs hP hD hS => ?_)
        refine lv_aload_n hx hb dX7_tryCuts_77 rfl (lv_at hl 0 rfl) ?_
        refine lv_iload_n hx hb dX7_tryCuts_78 rfl (lv_at hl 2 rfl) ?_
        refine zk_put (ws' := [(st, .inl (cI, 75, .inl sg)), (go, .inl (cI, 160, .inl fg)), (mo, .inr (7, [.ref st, .ref im, .ref iz, .ref go, .int (nI (zN (zpl sg) (zru sg) cc)), .ref pt, .ref ch, .ref su, .ref kp, .ref hr, .int (nI fo), .int cu, .int (ft_1 1), .int (zl4 5 ft_1), .int (gd + 1)])), (su, .inl (cI, 4, .inl ft_1))]) X hE sX7_tryCuts_79 hP hD hS 2 rfl (Nat.le_of_ble_eq_true rfl) rfl (fun H locs hP hD hS => ?_)
        have hq := hret  (nI fo, cu, ft_1 1, zl4 5 ft_1, gd + 1, ft_1, gg + 1) H locs 82 ls
        dsimp only at hq
        exact hq (by (try dsimp only); first | exact ⟨Nat.le_succ _, zrb_skip (Or.inl r12) hrb⟩ | exact ⟨Nat.le_succ _, zrb_skip (Or.inr c_27) hrb⟩ | exact ⟨Nat.le_refl _, zrb_no hgg r12 c_27 hp1 c_50 hrb⟩ | (rw [q1, q5]; exact ⟨Nat.le_refl _, zrb_up hgg r12 c_27 c_50 hrb⟩)) (zk_subP hP [2, 0, 1, 3] ⟨rfl, rfl, rfl, rfl, trivial⟩) (zk_subD hD [2, 0, 1, 3] (by decide +kernel) ⟨rfl, rfl, rfl, rfl, trivial⟩) hS dX7_tryCuts_82
set_option maxHeartbeats 4000000 in
set_option maxRecDepth 100000 in
theorem c_X7_findBest (l : Launch) (D : va_G) (cI cZ : ClassId) (ts : Nat → Nat) (mo : Nat) (st : Nat) (im : Nat) (iz : Nat) (go : Nat) (pt : Nat) (ch : Nat) (su : Nat) (kp : Nat) (hr : Nat) (li : Int32) (bf : Int32) (bc : Int32) (bs : Int32) (bt : Int32) (gd : Int32) (sg : Nat → Int32) (fg : Nat → Int32) (fp : Nat → Int32) (fc : Nat → Int32) (fs : Nat → Int32) (hsl : 1 ≤ sg 19 ∧ sg 19 ≤ 99) (hsp : ∀ i, ¬ zP (zpl sg) (zru sg) (zch sg (zkk sg)) i 1 < 0) (he0 : ¬ sg 17 < 0) (he1 : sg 17 ≤ 1000) (hp1 : ∀ fo9 cu9, ¬ zBc (zpl sg) (zru sg) (zch sg (zkk sg)) fo9 cu9 1 < 0) : zk_Mv l yX7_findBest wsX7_findBest ({ frames := 4, cells := 0, slots := 0, locals := 88 } : Room) D cI cZ ts [.ref mo] [(mo, .inr (7, [.ref st, .ref im, .ref iz, .ref go, .int li, .ref pt, .ref ch, .ref su, .ref kp, .ref hr, .int bf, .int bc, .int bs, .int bt, .int gd])), (st, .inl (cI, 75, .inl sg)), (go, .inl (cI, 160, .inl fg)), (pt, .inl (cI, 4, .inl fp)), (ch, .inl (cI, 4, .inl fc)), (su, .inl (cI, 4, .inl fs))] (fun (u : Int32 × Int32 × Int32 × Int32 × Int32 × (Nat → Int32) × (Nat → Int32) × (Nat → Int32) × (Nat → Int32) × Nat) => u.2.2.2.2.2.2.2.2.2 ≤ 210 ∧ zrb (zBz (zpl sg) (zru sg) (zch sg (zkk sg))) u.2.2.2.2.1 u.1 u.2.1 u.2.2.1 u.2.2.2.1 u.2.2.2.2.2.2.2.2.2) (fun (u : Int32 × Int32 × Int32 × Int32 × Int32 × (Nat → Int32) × (Nat → Int32) × (Nat → Int32) × (Nat → Int32) × Nat) => [(mo, .inr (7, [.ref st, .ref im, .ref iz, .ref go, .int (nI (zN (zpl sg) (zru sg) (zch sg (zkk sg)))), .ref pt, .ref ch, .ref su, .ref kp, .ref hr, .int u.1, .int u.2.1, .int u.2.2.1, .int u.2.2.2.1, .int u.2.2.2.2.1])), (st, .inl (cI, 75, .inl sg)), (go, .inl (cI, 160, .inl u.2.2.2.2.2.1)), (pt, .inl (cI, 4, .inl u.2.2.2.2.2.2.1)), (ch, .inl (cI, 4, .inl u.2.2.2.2.2.2.2.1)), (su, .inl (cI, 4, .inl u.2.2.2.2.2.2.2.2.1))]) 0 0 := by
  refine zk_Mv.of (cc := cX7_findBest) (maxL := 3) RX7 (by decide) rfl (Nat.le_of_ble_eq_true rfl) rfl ?_
  intro p e s m below meth c A Q H locs ls X hE hA hin hP hD hS hret hl
  obtain ⟨hx, hb, hml, hown, hts⟩ := id X
  have hl : lv_has ls 3 [(0, .ref mo)] := hl
  obtain ⟨hen, hen2⟩ := zen_eq (ru := zru sg) he0 he1
  refine lv_aload_n hx hb dX7_findBest_0 rfl (lv_at hl 0 rfl) ?_
  refine zk_cVv (rest := []) (wr := [(su, .inl (cI, 4, .inl fs))]) X hE hA (c_X7_goNext l D cI cZ ts mo st im iz go pt ch su kp hr li bf bc bs bt gd sg fg fp fc (by first | assumption | omega) (by first | assumption | omega)) (cwV 0 hts gX7_findBest_X7_goNext rfl rfl rfl hdX7_goNext ⟨Nat.le_of_ble_eq_true rfl, Nat.le_of_ble_eq_true rfl⟩) dX7_findBest_1 hP hD hS [0, 1, 2, 3, 4] [5] ⟨rfl, rfl, rfl, rfl, rfl, trivial⟩ ⟨rfl, trivial⟩ (by decide +kernel) (by decide +kernel) (by decide +kernel) 7 rfl rfl rfl hl rfl (Nat.le_of_ble_eq_true rfl) ⟨Nat.le_of_ble_eq_true rfl, Nat.le_of_ble_eq_true rfl⟩ (fun u_1 H locs hw_1 hP hD hS => ?_)
  obtain ⟨nn_1, gg_2, gp_3, gc_4⟩ := u_1
  have hP : va_P D vwCl [(su, .inl (cI, 4, .inl fs)), (mo, .inr (7, [.ref st, .ref im, .ref iz, .ref go, .int (nI nn_1), .ref pt, .ref ch, .ref su, .ref kp, .ref hr, .int bf, .int bc, .int bs, .int bt, .int gd])), (st, .inl (cI, 75, .inl sg)), (go, .inl (cI, 160, .inl gg_2)), (pt, .inl (cI, 4, .inl gp_3)), (ch, .inl (cI, 4, .inl gc_4))] H := hP
  have hD : va_D A [(su, .inl (cI, 4, .inl fs)), (mo, .inr (7, [.ref st, .ref im, .ref iz, .ref go, .int (nI nn_1), .ref pt, .ref ch, .ref su, .ref kp, .ref hr, .int bf, .int bc, .int bs, .int bt, .int gd])), (st, .inl (cI, 75, .inl sg)), (go, .inl (cI, 160, .inl gg_2)), (pt, .inl (cI, 4, .inl gp_3)), (ch, .inl (cI, 4, .inl gc_4))] := hD
  obtain ⟨rfl, hw_1⟩ : nn_1 = (zN (zpl sg) (zru sg) (zch sg (zkk sg))) ∧ zgn (zpl sg) (zru sg) (zch sg (zkk sg)) gg_2 nn_1 ∧ zar gp_3 (zP (zpl sg) (zru sg) (zch sg (zkk sg)) nn_1) 4 ∧ zar gc_4 (zch sg (zkk sg)) 4 := hw_1
  refine lv_aload_n hx hb dX7_findBest_4 rfl (lv_at hl 0 rfl) ?_
  refine lv_iconst (v := 0) hx hb dX7_findBest_5 (by decide) ?_
  refine zk_put (ws' := [(su, .inl (cI, 4, .inl fs)), (mo, .inr (7, [.ref st, .ref im, .ref iz, .ref go, .int (nI (zN (zpl sg) (zru sg) (zch sg (zkk sg)))), .ref pt, .ref ch, .ref su, .ref kp, .ref hr, .int bf, .int bc, .int bs, .int bt, .int 0])), (st, .inl (cI, 75, .inl sg)), (go, .inl (cI, 160, .inl gg_2)), (pt, .inl (cI, 4, .inl gp_3)), (ch, .inl (cI, 4, .inl gc_4))]) X hE sX7_findBest_6 hP hD hS 1 rfl (Nat.le_of_ble_eq_true rfl) rfl (fun H locs hP hD hS => ?_)
  refine lv_aload_n hx hb dX7_findBest_9 rfl (lv_at hl 0 rfl) ?_
  refine lv_bipush (v := (-6)) hx hb dX7_findBest_10 (by decide) ?_
  refine zk_put (ws' := [(su, .inl (cI, 4, .inl fs)), (mo, .inr (7, [.ref st, .ref im, .ref iz, .ref go, .int (nI (zN (zpl sg) (zru sg) (zch sg (zkk sg)))), .ref pt, .ref ch, .ref su, .ref kp, .ref hr, .int bf, .int bc, .int (-6), .int bt, .int 0])), (st, .inl (cI, 75, .inl sg)), (go, .inl (cI, 160, .inl gg_2)), (pt, .inl (cI, 4, .inl gp_3)), (ch, .inl (cI, 4, .inl gc_4))]) X hE sX7_findBest_12 hP hD hS 1 rfl (Nat.le_of_ble_eq_true rfl) rfl (fun H locs hP hD hS => ?_)
  refine lv_iconst (v := 0) hx hb dX7_findBest_15 (by decide) ?_
  refine lv_istore_n (lv' := [(1, .int 0), (0, .ref mo)]) hx hb dX7_findBest_16 rfl hl (by decide) rfl (fun ls hl => ?_)
  have L_17 : ∀ (n : Nat) (i : Nat) (g : Nat) (bf : Int32) (bc : Int32) (bs : Int32) (bt : Int32) (gd : Int32) (fs : Nat → Int32) (H : Heap) (locs : List Loc) (ls : Array Slot), (i ≤ 10) → (g ≤ 21 * i) → (zrb (zBo (zpl sg) (zru sg) (zch sg (zkk sg)) (zk5 0 0 0 0 0) (zen (zru sg)) i) gd bf bc bs bt g) → 10 - i < n → va_P D vwCl [(mo, .inr (7, [.ref st, .ref im, .ref iz, .ref go, .int (nI (zN (zpl sg) (zru sg) (zch sg (zkk sg)))), .ref pt, .ref ch, .ref su, .ref kp, .ref hr, .int bf, .int bc, .int bs, .int bt, .int gd])), (st, .inl (cI, 75, .inl sg)), (go, .inl (cI, 160, .inl gg_2)), (pt, .inl (cI, 4, .inl gp_3)), (ch, .inl (cI, 4, .inl gc_4)), (su, .inl (cI, 4, .inl fs))] H → va_D A [(mo, .inr (7, [.ref st, .ref im, .ref iz, .ref go, .int (nI (zN (zpl sg) (zru sg) (zch sg (zkk sg)))), .ref pt, .ref ch, .ref su, .ref kp, .ref hr, .int bf, .int bc, .int bs, .int bt, .int gd])), (st, .inl (cI, 75, .inl sg)), (go, .inl (cI, 160, .inl gg_2)), (pt, .inl (cI, 4, .inl gp_3)), (ch, .inl (cI, 4, .inl gc_4)), (su, .inl (cI, 4, .inl fs))] → va_S A s.heap H locs → lv_has ls 3 [(0, .ref mo), (1, .int (nI i))] → W p l e ({ frames := 4, cells := 0, slots := 0, locals := 88 } : Room) s m ([.ref mo] : List Value).toArray below meth c H locs 0 0 Q (F0 m 17 ls []) := by
    intro n
    induction n with
    | zero =>
      intro i g bf bc bs bt gd fs H locs ls hi hg hrb hlt hP hD hS hl
      exact absurd hlt (Nat.not_lt_zero _)
    | succ n ih_17 =>
      intro i g bf bc bs bt gd fs H locs ls hi hg hrb hlt hP hD hS hl
      refine lv_iload_n hx hb dX7_findBest_17 rfl (lv_at hl 1 rfl) ?_
      refine lv_bipush (v := 10) hx hb dX7_findBest_18 (by decide) ?_
      refine lv_icmp_ge (tgt := 56) hx hb dX7_findBest_20 (by decide) (fun c_20 => ?_) (fun c_20 => ?_)
      · have hf := zn_le (a := 10) c_20 (by decide) (by omega)
        have e_f : 10 = i := by omega
        subst e_f
        have hq := hret  (bf, bc, bs, bt, gd, gg_2, gp_3, gc_4, fs, g) H locs 56 ls
        dsimp only at hq
        exact hq (⟨hg, hrb⟩) hP hD hS dX7_findBest_56
      · have hf := zn_nle (a := 10) c_20 (by omega)
        refine lv_aload_n hx hb dX7_findBest_23 rfl (lv_at hl 0 rfl) ?_
        refine zk_get X hE sX7_findBest_24 hP 0 rfl rfl ?_
        refine lv_bipush (v := 17) hx hb dX7_findBest_27 (by decide) ?_
        refine zk_ald hx hb hE hP 1 17 rfl rfl (Nat.le_of_ble_eq_true rfl) (Nat.le_of_ble_eq_true rfl) dX7_findBest_29 ?_
        refine zk_top (show (sg 17 : Int32) = nI (zen (zru sg) + 50 * 0) from hen) ?_
        refine lv_istore_n (lv' := [(2, .int (nI (zen (zru sg) + 50 * 0))), (0, .ref mo), (1, .int (nI i))]) hx hb dX7_findBest_30 rfl hl (by decide) rfl (fun ls hl => ?_)
        have L_31 : ∀ (n : Nat) (k : Nat) (h : Nat) (bf : Int32) (bc : Int32) (bs : Int32) (bt : Int32) (gd : Int32) (fs : Nat → Int32) (H : Heap) (locs : List Loc) (ls : Array Slot), (k ≤ (1000 - zen (zru sg)) / 50 + 1) → (h ≤ 21 * i + k) → (zrb (zBi (zpl sg) (zru sg) (zch sg (zkk sg)) (zBo (zpl sg) (zru sg) (zch sg (zkk sg)) (zk5 0 0 0 0 0) (zen (zru sg)) i) i (zen (zru sg)) k) gd bf bc bs bt h) → (1000 - zen (zru sg)) / 50 + 1 - k < n → va_P D vwCl [(mo, .inr (7, [.ref st, .ref im, .ref iz, .ref go, .int (nI (zN (zpl sg) (zru sg) (zch sg (zkk sg)))), .ref pt, .ref ch, .ref su, .ref kp, .ref hr, .int bf, .int bc, .int bs, .int bt, .int gd])), (st, .inl (cI, 75, .inl sg)), (go, .inl (cI, 160, .inl gg_2)), (pt, .inl (cI, 4, .inl gp_3)), (ch, .inl (cI, 4, .inl gc_4)), (su, .inl (cI, 4, .inl fs))] H → va_D A [(mo, .inr (7, [.ref st, .ref im, .ref iz, .ref go, .int (nI (zN (zpl sg) (zru sg) (zch sg (zkk sg)))), .ref pt, .ref ch, .ref su, .ref kp, .ref hr, .int bf, .int bc, .int bs, .int bt, .int gd])), (st, .inl (cI, 75, .inl sg)), (go, .inl (cI, 160, .inl gg_2)), (pt, .inl (cI, 4, .inl gp_3)), (ch, .inl (cI, 4, .inl gc_4)), (su, .inl (cI, 4, .inl fs))] → va_S A s.heap H locs → lv_has ls 3 [(0, .ref mo), (1, .int (nI i)), (2, .int (nI (zen (zru sg) + 50 * k)))] → W p l e ({ frames := 4, cells := 0, slots := 0, locals := 88 } : Room) s m ([.ref mo] : List Value).toArray below meth c H locs 0 0 Q (F0 m 31 ls []) := by
          intro n
          induction n with
          | zero =>
            intro k h bf bc bs bt gd fs H locs ls hk hh hrb hlt hP hD hS hl
            exact absurd hlt (Nat.not_lt_zero _)
          | succ n ih_31 =>
            intro k h bf bc bs bt gd fs H locs ls hk hh hrb hlt hP hD hS hl
            refine lv_iload_n hx hb dX7_findBest_31 rfl (lv_at hl 2 rfl) ?_
            refine lv_sipush (v := 1000) hx hb dX7_findBest_32 (by decide) ?_
            refine lv_icmp_gt (tgt := 50) hx hb dX7_findBest_35 (by decide) (fun c_35 => ?_) (fun c_35 => ?_)
            · have h1000 := zn_lt (a := 1000) c_35 (by decide) (by omega)
              have e_k : (1000 - zen (zru sg)) / 50 + 1 = k := by omega
              subst e_k
              refine lv_iinc (v := nI (i + 1)) (lv' := [(1, .int (nI (i + 1))), (0, .ref mo), (2, .int (nI (zen (zru sg) + 50 * ((1000 - zen (zru sg)) / 50 + 1))))]) hx hb dX7_findBest_50 hl (k := 1) rfl (zk_inc i) (by decide) rfl (fun ls hl => ?_)
              refine lv_goto (tgt := 17) hx hb dX7_findBest_53 (by decide) ?_
              exact ih_17 (i + 1) h bf bc bs bt gd fs H locs ls (by omega) (by omega) hrb (by omega) hP hD hS (lv_sub hl [1, 0] rfl)
            · have h1000 := zn_nlt (a := 1000) c_35 (by omega)
              refine lv_aload_n hx hb dX7_findBest_38 rfl (lv_at hl 0 rfl) ?_
              refine lv_iload_n hx hb dX7_findBest_39 rfl (lv_at hl 1 rfl) ?_
              refine lv_iload_n hx hb dX7_findBest_40 rfl (lv_at hl 2 rfl) ?_
              refine zk_cVv (rest := []) (wr := [(pt, .inl (cI, 4, .inl gp_3)), (ch, .inl (cI, 4, .inl gc_4))]) X hE hA (c_X7_tryCuts l D cI cZ ts mo st im iz go pt ch su kp hr bf bc bs bt gd sg gg_2 fs (zch sg (zkk sg)) (zBi (zpl sg) (zru sg) (zch sg (zkk sg)) (zBo (zpl sg) (zru sg) (zch sg (zkk sg)) (zk5 0 0 0 0 0) (zen (zru sg)) i) i (zen (zru sg)) k) i h (nI (zen (zru sg) + 50 * k)) hw_1.1 (by omega) (hp1 _ _) (by omega) hrb) (cwV 2 hts gX7_findBest_X7_tryCuts rfl rfl rfl hdX7_tryCuts ⟨Nat.le_of_ble_eq_true rfl, Nat.le_of_ble_eq_true rfl⟩) dX7_findBest_41 hP hD hS [0, 1, 2, 5] [3, 4] ⟨rfl, rfl, rfl, rfl, trivial⟩ ⟨rfl, rfl, trivial⟩ (by decide +kernel) (by decide +kernel) (by decide +kernel) 7 rfl rfl rfl hl rfl (Nat.le_of_ble_eq_true rfl) ⟨Nat.le_of_ble_eq_true rfl, Nat.le_of_ble_eq_true rfl⟩ (fun u_41 H locs hw_41 hP hD hS => ?_)
              obtain ⟨bfo_5, bco_6, bso_7, bto_8, gdo_9, gs_10, g1_11⟩ := u_41
              have hP : va_P D vwCl [(pt, .inl (cI, 4, .inl gp_3)), (ch, .inl (cI, 4, .inl gc_4)), (mo, .inr (7, [.ref st, .ref im, .ref iz, .ref go, .int (nI (zN (zpl sg) (zru sg) (zch sg (zkk sg)))), .ref pt, .ref ch, .ref su, .ref kp, .ref hr, .int bfo_5, .int bco_6, .int bso_7, .int bto_8, .int gdo_9])), (st, .inl (cI, 75, .inl sg)), (go, .inl (cI, 160, .inl gg_2)), (su, .inl (cI, 4, .inl gs_10))] H := hP
              have hD : va_D A [(pt, .inl (cI, 4, .inl gp_3)), (ch, .inl (cI, 4, .inl gc_4)), (mo, .inr (7, [.ref st, .ref im, .ref iz, .ref go, .int (nI (zN (zpl sg) (zru sg) (zch sg (zkk sg)))), .ref pt, .ref ch, .ref su, .ref kp, .ref hr, .int bfo_5, .int bco_6, .int bso_7, .int bto_8, .int gdo_9])), (st, .inl (cI, 75, .inl sg)), (go, .inl (cI, 160, .inl gg_2)), (su, .inl (cI, 4, .inl gs_10))] := hD
              have hw_41 : g1_11 ≤ h + 1 ∧ zrb (zw (zBi (zpl sg) (zru sg) (zch sg (zkk sg)) (zBo (zpl sg) (zru sg) (zch sg (zkk sg)) (zk5 0 0 0 0 0) (zen (zru sg)) i) i (zen (zru sg)) k) (zBc (zpl sg) (zru sg) (zch sg (zkk sg)) i (nI (zen (zru sg) + 50 * k))) (nI i) (nI (zen (zru sg) + 50 * k)) (sg 20)) gdo_9 bfo_5 bco_6 bso_7 bto_8 g1_11 := hw_41
              refine lv_iinc (v := nI (zen (zru sg) + 50 * (k + 1))) (lv' := [(2, .int (nI (zen (zru sg) + 50 * (k + 1)))), (0, .ref mo), (1, .int (nI i))]) hx hb dX7_findBest_44 hl (k := 2) rfl ((nI_add (zen (zru sg) + 50 * k) 50).trans (congrArg nI (by omega))) (by decide) rfl (fun ls hl => ?_)
              refine lv_goto (tgt := 31) hx hb dX7_findBest_47 (by decide) ?_
              exact ih_31 (k + 1) g1_11 bfo_5 bco_6 bso_7 bto_8 gdo_9 gs_10 H locs ls (by omega) (by have := hw_41.1; omega) hw_41.2 (by omega) (zk_subP hP [2, 3, 4, 0, 1, 5] ⟨rfl, rfl, rfl, rfl, rfl, rfl, trivial⟩) (zk_subD hD [2, 3, 4, 0, 1, 5] (by decide +kernel) ⟨rfl, rfl, rfl, rfl, rfl, rfl, trivial⟩) hS (lv_sub hl [1, 2, 0] rfl)
        exact L_31 _ 0 g bf bc bs bt gd fs H locs ls (Nat.zero_le _) (by omega) hrb (Nat.lt_succ_self _) hP hD hS (lv_sub hl [1, 2, 0] rfl)
  exact L_17 _ 0 0 bf bc (-6) bt 0 fs H locs ls (Nat.zero_le _) (Nat.zero_le _) (⟨rfl, rfl, fun _ => rfl, fun q => absurd q (Nat.lt_irrefl 0)⟩) (Nat.lt_succ_self _) (zk_subP hP [1, 2, 3, 4, 5, 0] ⟨rfl, rfl, rfl, rfl, rfl, rfl, trivial⟩) (zk_subD hD [1, 2, 3, 4, 5, 0] (by decide +kernel) ⟨rfl, rfl, rfl, rfl, rfl, rfl, trivial⟩) hS (lv_sub hl [1, 0] rfl)
set_option maxHeartbeats 4000000 in
set_option maxRecDepth 100000 in
theorem c_X7_best (l : Launch) (D : va_G) (cI cZ : ClassId) (ts : Nat → Nat) (mo : Nat) (st : Nat) (im : Nat) (iz : Nat) (go : Nat) (pt : Nat) (ch : Nat) (su : Nat) (kp : Nat) (hr : Nat) (li : Int32) (bf : Int32) (bc : Int32) (bs : Int32) (bt : Int32) (gd : Int32) (sg : Nat → Int32) (fg : Nat → Int32) (fp : Nat → Int32) (fc : Nat → Int32) (fs : Nat → Int32) (p0 : Int32) (hsl : 1 ≤ sg 19 ∧ sg 19 ≤ 99) (hsp : ∀ i, ¬ zP (zpl sg) (zru sg) (zch sg (zkk sg)) i 1 < 0) (he0 : ¬ sg 17 < 0) (he1 : sg 17 ≤ 1000) (hp1 : ∀ fo9 cu9, ¬ zBc (zpl sg) (zru sg) (zch sg (zkk sg)) fo9 cu9 1 < 0) : zk_Mi l yX7_best wsX7_best ({ frames := 5, cells := 0, slots := 0, locals := 110 } : Room) D cI cZ ts [.ref mo, .int p0] [(mo, .inr (7, [.ref st, .ref im, .ref iz, .ref go, .int li, .ref pt, .ref ch, .ref su, .ref kp, .ref hr, .int bf, .int bc, .int bs, .int bt, .int gd])), (st, .inl (cI, 75, .inl sg)), (go, .inl (cI, 160, .inl fg)), (pt, .inl (cI, 4, .inl fp)), (ch, .inl (cI, 4, .inl fc)), (su, .inl (cI, 4, .inl fs))] (fun (r : Int32) (u : Int32 × Int32 × Int32 × Int32 × Int32 × Int32 × (Nat → Int32) × (Nat → Int32) × (Nat → Int32) × (Nat → Int32)) => r = (zbst (zBz (zpl sg) (zru sg) (zch sg (zkk sg))) p0)) (fun (u : Int32 × Int32 × Int32 × Int32 × Int32 × Int32 × (Nat → Int32) × (Nat → Int32) × (Nat → Int32) × (Nat → Int32)) => [(mo, .inr (7, [.ref st, .ref im, .ref iz, .ref go, .int u.1, .ref pt, .ref ch, .ref su, .ref kp, .ref hr, .int u.2.1, .int u.2.2.1, .int u.2.2.2.1, .int u.2.2.2.2.1, .int u.2.2.2.2.2.1])), (st, .inl (cI, 75, .inl sg)), (go, .inl (cI, 160, .inl u.2.2.2.2.2.2.1)), (pt, .inl (cI, 4, .inl u.2.2.2.2.2.2.2.1)), (ch, .inl (cI, 4, .inl u.2.2.2.2.2.2.2.2.1)), (su, .inl (cI, 4, .inl u.2.2.2.2.2.2.2.2.2))]) 0 0 := by
  refine zk_Mi.of (cc := cX7_best) (maxL := 2) RX7 (by decide) rfl (Nat.le_of_ble_eq_true rfl) rfl ?_
  intro p e s m below meth c A Q H locs ls X hE hA hP hD hS hret hl
  obtain ⟨hx, hb, hml, hown, hts⟩ := id X
  have hl : lv_has ls 2 [(0, .ref mo), (1, .int p0)] := hl
  refine lv_iload_n hx hb dX7_best_0 rfl (lv_at hl 1 rfl) ?_
  refine lv_iconst (v := 0) hx hb dX7_best_1 (by decide) ?_
  refine lv_iconst (v := 4) hx hb dX7_best_2 (by decide) ?_
  refine zk_cSi (rest := []) X hE hA (c_X7_in l D cI cZ ts p0 0 4) (cwS 3 hts gX7_best_X7_in rfl rfl rfl hdX7_in ⟨Nat.le_of_ble_eq_true rfl, Nat.le_of_ble_eq_true rfl⟩) dX7_best_3 hP hD hS rfl hl rfl (Nat.le_of_ble_eq_true rfl) ⟨Nat.le_of_ble_eq_true rfl, Nat.le_of_ble_eq_true rfl⟩ (fun r_3 _ H locs hw_3 hP hD hS => ?_)
  obtain rfl : r_3 = (if 0 ≤ p0 ∧ p0 ≤ 4 then 1 else 0) := hw_3
  refine lv_if_ne (tgt := 12) hx hb dX7_best_6 (by decide) (fun c_6 => ?_) (fun c_6 => ?_)
  · have c_6 : 0 ≤ p0 ∧ p0 ≤ 4 := zk_ite1 c_6
    refine lv_aload_n hx hb dX7_best_12 rfl (lv_at hl 0 rfl) ?_
    refine zk_cVv (rest := []) (wr := []) X hE hA (c_X7_findBest l D cI cZ ts mo st im iz go pt ch su kp hr li bf bc bs bt gd sg fg fp fc fs (by first | assumption | omega) (by first | assumption | omega) (by first | assumption | omega) (by first | assumption | omega) (by first | assumption | omega)) (cwV 0 hts gX7_best_X7_findBest rfl rfl rfl hdX7_findBest ⟨Nat.le_of_ble_eq_true rfl, Nat.le_of_ble_eq_true rfl⟩) dX7_best_13 hP hD hS [0, 1, 2, 3, 4, 5] [] ⟨rfl, rfl, rfl, rfl, rfl, rfl, trivial⟩ trivial (by decide +kernel) (by decide +kernel) (by decide +kernel) 7 rfl rfl rfl hl rfl (Nat.le_of_ble_eq_true rfl) ⟨Nat.le_of_ble_eq_true rfl, Nat.le_of_ble_eq_true rfl⟩ (fun u_13 H locs hw_13 hP hD hS => ?_)
    obtain ⟨bfo_1, bco_2, bso_3, bto_4, gdo_5, gg_6, gp_7, gc_8, gs_9, g1_10⟩ := u_13
    have hP : va_P D vwCl [(mo, .inr (7, [.ref st, .ref im, .ref iz, .ref go, .int (nI (zN (zpl sg) (zru sg) (zch sg (zkk sg)))), .ref pt, .ref ch, .ref su, .ref kp, .ref hr, .int bfo_1, .int bco_2, .int bso_3, .int bto_4, .int gdo_5])), (st, .inl (cI, 75, .inl sg)), (go, .inl (cI, 160, .inl gg_6)), (pt, .inl (cI, 4, .inl gp_7)), (ch, .inl (cI, 4, .inl gc_8)), (su, .inl (cI, 4, .inl gs_9))] H := hP
    have hD : va_D A [(mo, .inr (7, [.ref st, .ref im, .ref iz, .ref go, .int (nI (zN (zpl sg) (zru sg) (zch sg (zkk sg)))), .ref pt, .ref ch, .ref su, .ref kp, .ref hr, .int bfo_1, .int bco_2, .int bso_3, .int bto_4, .int gdo_5])), (st, .inl (cI, 75, .inl sg)), (go, .inl (cI, 160, .inl gg_6)), (pt, .inl (cI, 4, .inl gp_7)), (ch, .inl (cI, 4, .inl gc_8)), (su, .inl (cI, 4, .inl gs_9))] := hD
    have hw_13 : g1_10 ≤ 210 ∧ zrb (zBz (zpl sg) (zru sg) (zch sg (zkk sg))) gdo_5 bfo_1 bco_2 bso_3 bto_4 g1_10 := hw_13
    refine lv_iload_n hx hb dX7_best_16 rfl (lv_at hl 1 rfl) ?_
    refine lv_iconst (v := 4) hx hb dX7_best_17 (by decide) ?_
    refine lv_icmp_ne (tgt := 26) hx hb dX7_best_18 (by decide) (fun c_18 => ?_) (fun c_18 => ?_)
    · refine lv_aload_n hx hb dX7_best_26 rfl (lv_at hl 0 rfl) ?_
      refine zk_get X hE sX7_best_27 hP 0 rfl rfl ?_
      refine lv_if_ne (tgt := 38) hx hb dX7_best_30 (by decide) (fun c_30 => ?_) (fun c_30 => ?_)
      · refine lv_iload_n hx hb dX7_best_38 rfl (lv_at hl 1 rfl) ?_
        refine lv_if_ne (tgt := 49) hx hb dX7_best_39 (by decide) (fun c_39 => ?_) (fun c_39 => ?_)
        · refine lv_iload_n hx hb dX7_best_49 rfl (lv_at hl 1 rfl) ?_
          refine lv_iconst (v := 1) hx hb dX7_best_50 (by decide) ?_
          refine lv_icmp_ne (tgt := 61) hx hb dX7_best_51 (by decide) (fun c_51 => ?_) (fun c_51 => ?_)
          · refine lv_iload_n hx hb dX7_best_61 rfl (lv_at hl 1 rfl) ?_
            refine lv_iconst (v := 2) hx hb dX7_best_62 (by decide) ?_
            refine lv_icmp_ne (tgt := 73) hx hb dX7_best_63 (by decide) (fun c_63 => ?_) (fun c_63 => ?_)
            · refine lv_aload_n hx hb dX7_best_73 rfl (lv_at hl 0 rfl) ?_
              refine zk_get X hE sX7_best_74 hP 0 rfl rfl ?_
              have hq := hret bto_4 (nI (zN (zpl sg) (zru sg) (zch sg (zkk sg))), bfo_1, bco_2, bso_3, bto_4, gdo_5, gg_6, gp_7, gc_8, gs_9) H locs 77 ls
              dsimp only at hq
              exact hq (by (try dsimp only); rw [zrb_bst hw_13.1 hw_13.2, if_pos c_6]; simp [c_6, c_18, c_30, c_39, c_51, c_63]) hP hD hS dX7_best_77
            · refine lv_aload_n hx hb dX7_best_66 rfl (lv_at hl 0 rfl) ?_
              refine zk_get X hE sX7_best_67 hP 0 rfl rfl ?_
              refine lv_goto (tgt := 77) hx hb dX7_best_70 (by decide) ?_
              have hq := hret bso_3 (nI (zN (zpl sg) (zru sg) (zch sg (zkk sg))), bfo_1, bco_2, bso_3, bto_4, gdo_5, gg_6, gp_7, gc_8, gs_9) H locs 77 ls
              dsimp only at hq
              exact hq (by (try dsimp only); rw [zrb_bst hw_13.1 hw_13.2, if_pos c_6]; simp [c_6, c_18, c_30, c_39, c_51, c_63]) hP hD hS dX7_best_77
          · refine lv_aload_n hx hb dX7_best_54 rfl (lv_at hl 0 rfl) ?_
            refine zk_get X hE sX7_best_55 hP 0 rfl rfl ?_
            refine lv_goto (tgt := 77) hx hb dX7_best_58 (by decide) ?_
            have hq := hret bco_2 (nI (zN (zpl sg) (zru sg) (zch sg (zkk sg))), bfo_1, bco_2, bso_3, bto_4, gdo_5, gg_6, gp_7, gc_8, gs_9) H locs 77 ls
            dsimp only at hq
            exact hq (by (try dsimp only); rw [zrb_bst hw_13.1 hw_13.2, if_pos c_6]; simp [c_6, c_18, c_30, c_39, c_51]) hP hD hS dX7_best_77
        · refine lv_aload_n hx hb dX7_best_42 rfl (lv_at hl 0 rfl) ?_
          refine zk_get X hE sX7_best_43 hP 0 rfl rfl ?_
          refine lv_goto (tgt := 77) hx hb dX7_best_46 (by decide) ?_
          have hq := hret bfo_1 (nI (zN (zpl sg) (zru sg) (zch sg (zkk sg))), bfo_1, bco_2, bso_3, bto_4, gdo_5, gg_6, gp_7, gc_8, gs_9) H locs 77 ls
          dsimp only at hq
          exact hq (by (try dsimp only); rw [zrb_bst hw_13.1 hw_13.2, if_pos c_6]; simp [c_6, c_18, c_30, c_39]) hP hD hS dX7_best_77
      · refine lv_bipush (v := (-6)) hx hb dX7_best_33 (by decide) ?_
        refine lv_goto (tgt := 77) hx hb dX7_best_35 (by decide) ?_
        have hq := hret (-6) (nI (zN (zpl sg) (zru sg) (zch sg (zkk sg))), bfo_1, bco_2, bso_3, bto_4, gdo_5, gg_6, gp_7, gc_8, gs_9) H locs 77 ls
        dsimp only at hq
        exact hq (by (try dsimp only); rw [zrb_bst hw_13.1 hw_13.2, if_pos c_6]; simp [c_6, c_18, c_30]) hP hD hS dX7_best_77
    · refine lv_aload_n hx hb dX7_best_21 rfl (lv_at hl 0 rfl) ?_
      refine zk_get X hE sX7_best_22 hP 0 rfl rfl ?_
      have hq := hret gdo_5 (nI (zN (zpl sg) (zru sg) (zch sg (zkk sg))), bfo_1, bco_2, bso_3, bto_4, gdo_5, gg_6, gp_7, gc_8, gs_9) H locs 25 ls
      dsimp only at hq
      exact hq (by (try dsimp only); rw [zrb_bst hw_13.1 hw_13.2, if_pos c_6]; simp [c_6, c_18]) hP hD hS dX7_best_25
  · have c_6 : ¬ (0 ≤ p0 ∧ p0 ≤ 4) := zk_ite0 c_6
    refine lv_bipush (v := (-2)) hx hb dX7_best_9 (by decide) ?_
    have hq := hret (-2) (li, bf, bc, bs, bt, gd, fg, fp, fc, fs) H locs 11 ls
    dsimp only at hq
    exact hq (by (try dsimp only); unfold zbst; rw [if_neg c_6]) hP hD hS dX7_best_11
set_option maxHeartbeats 4000000 in
set_option maxRecDepth 100000 in
theorem c_X7_take_y (l : Launch) (D : va_G) (cI cZ : ClassId) (ts : Nat → Nat) (mo : Nat) (st : Nat) (im : Nat) (iz : Nat) (go : Nat) (pt : Nat) (ch : Nat) (su : Nat) (kp : Nat) (hr : Nat) (li : Int32) (bf : Int32) (bc : Int32) (bs : Int32) (bt : Int32) (gd : Int32) (sg : Nat → Int32) (fg : Nat → Int32) (fp : Nat → Int32) (fc : Nat → Int32) (fs : Nat → Int32) (hsl : 1 ≤ sg 19 ∧ sg 19 ≤ 99) (hsp : ∀ i, ¬ zP (zpl sg) (zru sg) (zch sg (zkk sg)) i 1 < 0) (he0 : ¬ sg 17 < 0) (he1 : sg 17 ≤ 1000) (hp1 : ∀ fo9 cu9, ¬ zBc (zpl sg) (zru sg) (zch sg (zkk sg)) fo9 cu9 1 < 0) (hg : ¬ zBz (zpl sg) (zru sg) (zch sg (zkk sg)) 0 = 0) : zk_Mi l yX7_take wsX7_take ({ frames := 5, cells := 0, slots := 0, locals := 110 } : Room) D cI cZ ts [.ref mo] [(mo, .inr (7, [.ref st, .ref im, .ref iz, .ref go, .int li, .ref pt, .ref ch, .ref su, .ref kp, .ref hr, .int bf, .int bc, .int bs, .int bt, .int gd])), (st, .inl (cI, 75, .inl sg)), (go, .inl (cI, 160, .inl fg)), (pt, .inl (cI, 4, .inl fp)), (ch, .inl (cI, 4, .inl fc)), (su, .inl (cI, 4, .inl fs))] (fun (r : Int32) (u : Int32 × Int32 × Int32 × Int32 × Int32 × (Nat → Int32) × (Nat → Int32) × (Nat → Int32) × (Nat → Int32)) => r = (zBz (zpl sg) (zru sg) (zch sg (zkk sg)) 3)) (fun (u : Int32 × Int32 × Int32 × Int32 × Int32 × (Nat → Int32) × (Nat → Int32) × (Nat → Int32) × (Nat → Int32)) => [(mo, .inr (7, [.ref st, .ref im, .ref iz, .ref go, .int (nI (zN (zpl sg) (zru sg) (zch sg (zkk sg)))), .ref pt, .ref ch, .ref su, .ref kp, .ref hr, .int u.1, .int u.2.1, .int u.2.2.1, .int u.2.2.2.1, .int u.2.2.2.2.1])), (st, .inl (cI, 75, .inl (upd (upd sg 15 (zBz (zpl sg) (zru sg) (zch sg (zkk sg)) 1)) 16 (zBz (zpl sg) (zru sg) (zch sg (zkk sg)) 2)))), (go, .inl (cI, 160, .inl u.2.2.2.2.2.1)), (pt, .inl (cI, 4, .inl u.2.2.2.2.2.2.1)), (ch, .inl (cI, 4, .inl u.2.2.2.2.2.2.2.1)), (su, .inl (cI, 4, .inl u.2.2.2.2.2.2.2.2))]) 0 0 := by
  refine zk_Mi.of (cc := cX7_take) (maxL := 1) RX7 (by decide) rfl (Nat.le_of_ble_eq_true rfl) rfl ?_
  intro p e s m below meth c A Q H locs ls X hE hA hP hD hS hret hl
  obtain ⟨hx, hb, hml, hown, hts⟩ := id X
  have hl : lv_has ls 1 [(0, .ref mo)] := hl
  refine lv_aload_n hx hb dX7_take_0 rfl (lv_at hl 0 rfl) ?_
  refine zk_cVv (rest := []) (wr := []) X hE hA (c_X7_findBest l D cI cZ ts mo st im iz go pt ch su kp hr li bf bc bs bt gd sg fg fp fc fs (by first | assumption | omega) (by first | assumption | omega) (by first | assumption | omega) (by first | assumption | omega) (by first | assumption | omega)) (cwV 0 hts gX7_take_X7_findBest rfl rfl rfl hdX7_findBest ⟨Nat.le_of_ble_eq_true rfl, Nat.le_of_ble_eq_true rfl⟩) dX7_take_1 hP hD hS [0, 1, 2, 3, 4, 5] [] ⟨rfl, rfl, rfl, rfl, rfl, rfl, trivial⟩ trivial (by decide +kernel) (by decide +kernel) (by decide +kernel) 7 rfl rfl rfl hl rfl (Nat.le_of_ble_eq_true rfl) ⟨Nat.le_of_ble_eq_true rfl, Nat.le_of_ble_eq_true rfl⟩ (fun u_1 H locs hw_1 hP hD hS => ?_)
  obtain ⟨bfo_1, bco_2, bso_3, bto_4, gdo_5, gg_6, gp_7, gc_8, gs_9, g1_10⟩ := u_1
  have hP : va_P D vwCl [(mo, .inr (7, [.ref st, .ref im, .ref iz, .ref go, .int (nI (zN (zpl sg) (zru sg) (zch sg (zkk sg)))), .ref pt, .ref ch, .ref su, .ref kp, .ref hr, .int bfo_1, .int bco_2, .int bso_3, .int bto_4, .int gdo_5])), (st, .inl (cI, 75, .inl sg)), (go, .inl (cI, 160, .inl gg_6)), (pt, .inl (cI, 4, .inl gp_7)), (ch, .inl (cI, 4, .inl gc_8)), (su, .inl (cI, 4, .inl gs_9))] H := hP
  have hD : va_D A [(mo, .inr (7, [.ref st, .ref im, .ref iz, .ref go, .int (nI (zN (zpl sg) (zru sg) (zch sg (zkk sg)))), .ref pt, .ref ch, .ref su, .ref kp, .ref hr, .int bfo_1, .int bco_2, .int bso_3, .int bto_4, .int gdo_5])), (st, .inl (cI, 75, .inl sg)), (go, .inl (cI, 160, .inl gg_6)), (pt, .inl (cI, 4, .inl gp_7)), (ch, .inl (cI, 4, .inl gc_8)), (su, .inl (cI, 4, .inl gs_9))] := hD
  have hw_1 : g1_10 ≤ 210 ∧ zrb (zBz (zpl sg) (zru sg) (zch sg (zkk sg))) gdo_5 bfo_1 bco_2 bso_3 bto_4 g1_10 := hw_1
  have hz := zrb_get hw_1.1 hw_1.2
  obtain ⟨y1, y2, y3, y4⟩ := hz.2 hg
  refine lv_aload_n hx hb dX7_take_4 rfl (lv_at hl 0 rfl) ?_
  refine zk_get X hE sX7_take_5 hP 0 rfl rfl ?_
  refine lv_if_ne (tgt := 14) hx hb dX7_take_8 (by decide) (fun c_8 => ?_) (fun c_8 => absurd (hz.1.symm.trans c_8) hg)
  refine lv_aload_n hx hb dX7_take_14 rfl (lv_at hl 0 rfl) ?_
  refine zk_get X hE sX7_take_15 hP 0 rfl rfl ?_
  refine lv_bipush (v := 15) hx hb dX7_take_18 (by decide) ?_
  refine lv_aload_n hx hb dX7_take_20 rfl (lv_at hl 0 rfl) ?_
  refine zk_get X hE sX7_take_21 hP 0 rfl rfl ?_
  refine zk_top (show (bfo_1 : Int32) = zBz (zpl sg) (zru sg) (zch sg (zkk sg)) 1 from y1) ?_
  refine zk_ast (ws' := [(mo, .inr (7, [.ref st, .ref im, .ref iz, .ref go, .int (nI (zN (zpl sg) (zru sg) (zch sg (zkk sg)))), .ref pt, .ref ch, .ref su, .ref kp, .ref hr, .int bfo_1, .int bco_2, .int bso_3, .int bto_4, .int gdo_5])), (st, .inl (cI, 75, .inl (upd sg 15 (zBz (zpl sg) (zru sg) (zch sg (zkk sg)) 1)))), (go, .inl (cI, 160, .inl gg_6)), (pt, .inl (cI, 4, .inl gp_7)), (ch, .inl (cI, 4, .inl gc_8)), (su, .inl (cI, 4, .inl gs_9))]) hx hb hE hP hD hS 1 15 rfl rfl (Nat.le_of_ble_eq_true rfl) (Nat.le_of_ble_eq_true rfl) dX7_take_24 rfl (fun H locs hP hD hS => ?_)
  refine lv_aload_n hx hb dX7_take_25 rfl (lv_at hl 0 rfl) ?_
  refine zk_get X hE sX7_take_26 hP 0 rfl rfl ?_
  refine lv_bipush (v := 16) hx hb dX7_take_29 (by decide) ?_
  refine lv_aload_n hx hb dX7_take_31 rfl (lv_at hl 0 rfl) ?_
  refine zk_get X hE sX7_take_32 hP 0 rfl rfl ?_
  refine zk_top (show (bco_2 : Int32) = zBz (zpl sg) (zru sg) (zch sg (zkk sg)) 2 from y2) ?_
  refine zk_ast (ws' := [(mo, .inr (7, [.ref st, .ref im, .ref iz, .ref go, .int (nI (zN (zpl sg) (zru sg) (zch sg (zkk sg)))), .ref pt, .ref ch, .ref su, .ref kp, .ref hr, .int bfo_1, .int bco_2, .int bso_3, .int bto_4, .int gdo_5])), (st, .inl (cI, 75, .inl (upd (upd sg 15 (zBz (zpl sg) (zru sg) (zch sg (zkk sg)) 1)) 16 (zBz (zpl sg) (zru sg) (zch sg (zkk sg)) 2)))), (go, .inl (cI, 160, .inl gg_6)), (pt, .inl (cI, 4, .inl gp_7)), (ch, .inl (cI, 4, .inl gc_8)), (su, .inl (cI, 4, .inl gs_9))]) hx hb hE hP hD hS 1 16 rfl rfl (Nat.le_of_ble_eq_true rfl) (Nat.le_of_ble_eq_true rfl) dX7_take_35 rfl (fun H locs hP hD hS => ?_)
  refine lv_aload_n hx hb dX7_take_36 rfl (lv_at hl 0 rfl) ?_
  refine zk_get X hE sX7_take_37 hP 0 rfl rfl ?_
  refine zk_top (show (bso_3 : Int32) = zBz (zpl sg) (zru sg) (zch sg (zkk sg)) 3 from y3) ?_
  have hq := hret (zBz (zpl sg) (zru sg) (zch sg (zkk sg)) 3) (bfo_1, bco_2, bso_3, bto_4, gdo_5, gg_6, gp_7, gc_8, gs_9) H locs 40 ls
  dsimp only at hq
  exact hq rfl hP hD hS dX7_take_40
set_option maxHeartbeats 4000000 in
set_option maxRecDepth 100000 in
theorem c_X7_take_n (l : Launch) (D : va_G) (cI cZ : ClassId) (ts : Nat → Nat) (mo : Nat) (st : Nat) (im : Nat) (iz : Nat) (go : Nat) (pt : Nat) (ch : Nat) (su : Nat) (kp : Nat) (hr : Nat) (li : Int32) (bf : Int32) (bc : Int32) (bs : Int32) (bt : Int32) (gd : Int32) (sg : Nat → Int32) (fg : Nat → Int32) (fp : Nat → Int32) (fc : Nat → Int32) (fs : Nat → Int32) (hsl : 1 ≤ sg 19 ∧ sg 19 ≤ 99) (hsp : ∀ i, ¬ zP (zpl sg) (zru sg) (zch sg (zkk sg)) i 1 < 0) (he0 : ¬ sg 17 < 0) (he1 : sg 17 ≤ 1000) (hp1 : ∀ fo9 cu9, ¬ zBc (zpl sg) (zru sg) (zch sg (zkk sg)) fo9 cu9 1 < 0) (hg : zBz (zpl sg) (zru sg) (zch sg (zkk sg)) 0 = 0) : zk_Mi l yX7_take wsX7_take ({ frames := 5, cells := 0, slots := 0, locals := 110 } : Room) D cI cZ ts [.ref mo] [(mo, .inr (7, [.ref st, .ref im, .ref iz, .ref go, .int li, .ref pt, .ref ch, .ref su, .ref kp, .ref hr, .int bf, .int bc, .int bs, .int bt, .int gd])), (st, .inl (cI, 75, .inl sg)), (go, .inl (cI, 160, .inl fg)), (pt, .inl (cI, 4, .inl fp)), (ch, .inl (cI, 4, .inl fc)), (su, .inl (cI, 4, .inl fs))] (fun (r : Int32) (u : Int32 × Int32 × Int32 × Int32 × Int32 × (Nat → Int32) × (Nat → Int32) × (Nat → Int32) × (Nat → Int32)) => r = (-3)) (fun (u : Int32 × Int32 × Int32 × Int32 × Int32 × (Nat → Int32) × (Nat → Int32) × (Nat → Int32) × (Nat → Int32)) => [(mo, .inr (7, [.ref st, .ref im, .ref iz, .ref go, .int (nI (zN (zpl sg) (zru sg) (zch sg (zkk sg)))), .ref pt, .ref ch, .ref su, .ref kp, .ref hr, .int u.1, .int u.2.1, .int u.2.2.1, .int u.2.2.2.1, .int u.2.2.2.2.1])), (st, .inl (cI, 75, .inl sg)), (go, .inl (cI, 160, .inl u.2.2.2.2.2.1)), (pt, .inl (cI, 4, .inl u.2.2.2.2.2.2.1)), (ch, .inl (cI, 4, .inl u.2.2.2.2.2.2.2.1)), (su, .inl (cI, 4, .inl u.2.2.2.2.2.2.2.2))]) 0 0 := by
  refine zk_Mi.of (cc := cX7_take) (maxL := 1) RX7 (by decide) rfl (Nat.le_of_ble_eq_true rfl) rfl ?_
  intro p e s m below meth c A Q H locs ls X hE hA hP hD hS hret hl
  obtain ⟨hx, hb, hml, hown, hts⟩ := id X
  have hl : lv_has ls 1 [(0, .ref mo)] := hl
  refine lv_aload_n hx hb dX7_take_0 rfl (lv_at hl 0 rfl) ?_
  refine zk_cVv (rest := []) (wr := []) X hE hA (c_X7_findBest l D cI cZ ts mo st im iz go pt ch su kp hr li bf bc bs bt gd sg fg fp fc fs (by first | assumption | omega) (by first | assumption | omega) (by first | assumption | omega) (by first | assumption | omega) (by first | assumption | omega)) (cwV 0 hts gX7_take_X7_findBest rfl rfl rfl hdX7_findBest ⟨Nat.le_of_ble_eq_true rfl, Nat.le_of_ble_eq_true rfl⟩) dX7_take_1 hP hD hS [0, 1, 2, 3, 4, 5] [] ⟨rfl, rfl, rfl, rfl, rfl, rfl, trivial⟩ trivial (by decide +kernel) (by decide +kernel) (by decide +kernel) 7 rfl rfl rfl hl rfl (Nat.le_of_ble_eq_true rfl) ⟨Nat.le_of_ble_eq_true rfl, Nat.le_of_ble_eq_true rfl⟩ (fun u_1 H locs hw_1 hP hD hS => ?_)
  obtain ⟨bfo_1, bco_2, bso_3, bto_4, gdo_5, gg_6, gp_7, gc_8, gs_9, g1_10⟩ := u_1
  have hP : va_P D vwCl [(mo, .inr (7, [.ref st, .ref im, .ref iz, .ref go, .int (nI (zN (zpl sg) (zru sg) (zch sg (zkk sg)))), .ref pt, .ref ch, .ref su, .ref kp, .ref hr, .int bfo_1, .int bco_2, .int bso_3, .int bto_4, .int gdo_5])), (st, .inl (cI, 75, .inl sg)), (go, .inl (cI, 160, .inl gg_6)), (pt, .inl (cI, 4, .inl gp_7)), (ch, .inl (cI, 4, .inl gc_8)), (su, .inl (cI, 4, .inl gs_9))] H := hP
  have hD : va_D A [(mo, .inr (7, [.ref st, .ref im, .ref iz, .ref go, .int (nI (zN (zpl sg) (zru sg) (zch sg (zkk sg)))), .ref pt, .ref ch, .ref su, .ref kp, .ref hr, .int bfo_1, .int bco_2, .int bso_3, .int bto_4, .int gdo_5])), (st, .inl (cI, 75, .inl sg)), (go, .inl (cI, 160, .inl gg_6)), (pt, .inl (cI, 4, .inl gp_7)), (ch, .inl (cI, 4, .inl gc_8)), (su, .inl (cI, 4, .inl gs_9))] := hD
  have hw_1 : g1_10 ≤ 210 ∧ zrb (zBz (zpl sg) (zru sg) (zch sg (zkk sg))) gdo_5 bfo_1 bco_2 bso_3 bto_4 g1_10 := hw_1
  have hz := zrb_get hw_1.1 hw_1.2
  refine lv_aload_n hx hb dX7_take_4 rfl (lv_at hl 0 rfl) ?_
  refine zk_get X hE sX7_take_5 hP 0 rfl rfl ?_
  refine lv_if_ne (tgt := 14) hx hb dX7_take_8 (by decide) (fun c_8 => absurd (hz.1.trans hg) c_8) (fun c_8 => ?_)
  refine lv_bipush (v := (-3)) hx hb dX7_take_11 (by decide) ?_
  have hq := hret (-3) (bfo_1, bco_2, bso_3, bto_4, gdo_5, gg_6, gp_7, gc_8, gs_9) H locs 13 ls
  dsimp only at hq
  exact hq rfl hP hD hS dX7_take_13
