set_option maxHeartbeats 4000000 in
set_option maxRecDepth 100000 in
theorem c_X7_litre (l : Launch) (D : va_G) (cI cZ : ClassId) (ts : Nat → Nat) (mo : Nat) (st : Nat) (im : Nat) (iz : Nat) (go : Nat) (pt : Nat) (ch : Nat) (su : Nat) (kp : Nat) (hr : Nat) (li : Int32) (bf : Int32) (bc : Int32) (bs : Int32) (bt : Int32) (gd : Int32) (sg : Nat → Int32) (fg : Nat → Int32) (fp : Nat → Int32) (fc : Nat → Int32) (p0 : Int32) (p1 : Int32) (hsl : 1 ≤ sg 19 ∧ sg 19 ≤ 99) (hsp : ∀ i, ¬ zP (zpl sg) (zru sg) (zch sg (zkk sg)) i 1 < 0) (hru : ¬ sg 15 < 0) : zk_Mi l yX7_litre wsX7_litre ({ frames := 3, cells := 0, slots := 0, locals := 71 } : Room) D cI cZ ts [.ref mo, .int p0, .int p1] [(mo, .inr (7, [.ref st, .ref im, .ref iz, .ref go, .int li, .ref pt, .ref ch, .ref su, .ref kp, .ref hr, .int bf, .int bc, .int bs, .int bt, .int gd])), (st, .inl (cI, 75, .inl sg)), (go, .inl (cI, 160, .inl fg)), (pt, .inl (cI, 4, .inl fp)), (ch, .inl (cI, 4, .inl fc))] (fun (r : Int32) (u : Int32 × (Nat → Int32) × (Nat → Int32) × (Nat → Int32)) => r = (zlitre (zpl sg) (zru sg) (zch sg (zkk sg)) p0 p1)) (fun (u : Int32 × (Nat → Int32) × (Nat → Int32) × (Nat → Int32)) => [(mo, .inr (7, [.ref st, .ref im, .ref iz, .ref go, .int u.1, .ref pt, .ref ch, .ref su, .ref kp, .ref hr, .int bf, .int bc, .int bs, .int bt, .int gd])), (st, .inl (cI, 75, .inl sg)), (go, .inl (cI, 160, .inl u.2.1)), (pt, .inl (cI, 4, .inl u.2.2.1)), (ch, .inl (cI, 4, .inl u.2.2.2))]) 0 0 := by
  refine zk_Mi.of (cc := cX7_litre) (maxL := 3) RX7 (by decide) rfl (Nat.le_of_ble_eq_true rfl) rfl ?_
  intro p e s m below meth c A Q H locs ls X hE hA hP hD hS hret hl
  obtain ⟨hx, hb, hml, hown, hts⟩ := id X
  have hl : lv_has ls 3 [(0, .ref mo), (1, .int p0), (2, .int p1)] := hl
  obtain ⟨hfo, hf31⟩ := zfo_eq (ru := zru sg) hru
  have hn40 := zN_le (zpl sg) (zru sg) (zch sg (zkk sg))
  refine lv_aload_n hx hb dX7_litre_0 rfl (lv_at hl 0 rfl) ?_
  refine zk_cVv (rest := []) (wr := []) X hE hA (c_X7_goNext l D cI cZ ts mo st im iz go pt ch su kp hr li bf bc bs bt gd sg fg fp fc (by first | assumption | omega) (by first | assumption | omega)) (cwV 0 hts gX7_litre_X7_goNext rfl rfl rfl hdX7_goNext ⟨Nat.le_of_ble_eq_true rfl, Nat.le_of_ble_eq_true rfl⟩) dX7_litre_1 hP hD hS [0, 1, 2, 3, 4] [] ⟨rfl, rfl, rfl, rfl, rfl, trivial⟩ trivial (by decide +kernel) (by decide +kernel) (by decide +kernel) 7 rfl rfl rfl hl rfl (Nat.le_of_ble_eq_true rfl) ⟨Nat.le_of_ble_eq_true rfl, Nat.le_of_ble_eq_true rfl⟩ (fun u_1 H locs hw_1 hP hD hS => ?_)
  obtain ⟨nn_1, gg_2, gp_3, gc_4⟩ := u_1
  have hP : va_P D vwCl [(mo, .inr (7, [.ref st, .ref im, .ref iz, .ref go, .int (nI nn_1), .ref pt, .ref ch, .ref su, .ref kp, .ref hr, .int bf, .int bc, .int bs, .int bt, .int gd])), (st, .inl (cI, 75, .inl sg)), (go, .inl (cI, 160, .inl gg_2)), (pt, .inl (cI, 4, .inl gp_3)), (ch, .inl (cI, 4, .inl gc_4))] H := hP
  have hD : va_D A [(mo, .inr (7, [.ref st, .ref im, .ref iz, .ref go, .int (nI nn_1), .ref pt, .ref ch, .ref su, .ref kp, .ref hr, .int bf, .int bc, .int bs, .int bt, .int gd])), (st, .inl (cI, 75, .inl sg)), (go, .inl (cI, 160, .inl gg_2)), (pt, .inl (cI, 4, .inl gp_3)), (ch, .inl (cI, 4, .inl gc_4))] := hD
  obtain ⟨rfl, hw_1⟩ : nn_1 = (zN (zpl sg) (zru sg) (zch sg (zkk sg))) ∧ zgn (zpl sg) (zru sg) (zch sg (zkk sg)) gg_2 nn_1 ∧ zar gp_3 (zP (zpl sg) (zru sg) (zch sg (zkk sg)) nn_1) 4 ∧ zar gc_4 (zch sg (zkk sg)) 4 := hw_1
  refine lv_iload_n hx hb dX7_litre_4 rfl (lv_at hl 1 rfl) ?_
  refine lv_iconst (v := (-1)) hx hb dX7_litre_5 (by decide) ?_
  refine lv_aload_n hx hb dX7_litre_6 rfl (lv_at hl 0 rfl) ?_
  refine zk_get X hE sX7_litre_7 hP 0 rfl rfl ?_
  refine lv_iconst (v := 1) hx hb dX7_litre_10 (by decide) ?_
  refine lv_isub hx hb dX7_litre_11 ?_
  refine zk_cSi (rest := []) X hE hA (c_X7_in l D cI cZ ts p0 (-1) ((nI (zN (zpl sg) (zru sg) (zch sg (zkk sg)))) - 1)) (cwS 3 hts gX7_litre_X7_in rfl rfl rfl hdX7_in ⟨Nat.le_of_ble_eq_true rfl, Nat.le_of_ble_eq_true rfl⟩) dX7_litre_12 hP hD hS rfl hl rfl (Nat.le_of_ble_eq_true rfl) ⟨Nat.le_of_ble_eq_true rfl, Nat.le_of_ble_eq_true rfl⟩ (fun r_12 _ H locs hw_12 hP hD hS => ?_)
  obtain rfl : r_12 = (if (-1) ≤ p0 ∧ p0 ≤ ((nI (zN (zpl sg) (zru sg) (zch sg (zkk sg)))) - 1) then 1 else 0) := hw_12
  refine lv_if_ne (tgt := 20) hx hb dX7_litre_15 (by decide) (fun c_15 => ?_) (fun c_15 => ?_)
  · have c_15 : (-1) ≤ p0 ∧ p0 ≤ ((nI (zN (zpl sg) (zru sg) (zch sg (zkk sg)))) - 1) := zk_ite1 c_15
    refine lv_iload_n hx hb dX7_litre_20 rfl (lv_at hl 2 rfl) ?_
    refine lv_iconst (v := 0) hx hb dX7_litre_21 (by decide) ?_
    refine lv_iconst (v := 4) hx hb dX7_litre_22 (by decide) ?_
    refine zk_cSi (rest := []) X hE hA (c_X7_in l D cI cZ ts p1 0 4) (cwS 3 hts gX7_litre_X7_in rfl rfl rfl hdX7_in ⟨Nat.le_of_ble_eq_true rfl, Nat.le_of_ble_eq_true rfl⟩) dX7_litre_23 hP hD hS rfl hl rfl (Nat.le_of_ble_eq_true rfl) ⟨Nat.le_of_ble_eq_true rfl, Nat.le_of_ble_eq_true rfl⟩ (fun r_23 _ H locs hw_23 hP hD hS => ?_)
    obtain rfl : r_23 = (if 0 ≤ p1 ∧ p1 ≤ 4 then 1 else 0) := hw_23
    refine lv_if_ne (tgt := 32) hx hb dX7_litre_26 (by decide) (fun c_26 => ?_) (fun c_26 => ?_)
    · have c_26 : 0 ≤ p1 ∧ p1 ≤ 4 := zk_ite1 c_26
      refine lv_iload_n hx hb dX7_litre_32 rfl (lv_at hl 1 rfl) ?_
      refine lv_iconst (v := (-1)) hx hb dX7_litre_33 (by decide) ?_
      refine lv_icmp_ne (tgt := 42) hx hb dX7_litre_34 (by decide) (fun c_34 => ?_) (fun c_34 => ?_)
      · obtain ⟨hi0, hi1⟩ := zN_ix c_15 c_34
        refine lv_iload_n hx hb dX7_litre_42 rfl (lv_at hl 2 rfl) ?_
        refine lv_iconst (v := 4) hx hb dX7_litre_43 (by decide) ?_
        refine lv_icmp_ge (tgt := 58) hx hb dX7_litre_44 (by decide) (fun c_44 => ?_) (fun c_44 => ?_)
        · have e4 : p1 = 4 := Int32.le_antisymm c_26.2 c_44
          refine lv_iload_n hx hb dX7_litre_58 rfl (lv_at hl 1 rfl) ?_
          refine zk_top (show (p0 : Int32) = nI p0.toNatClampNeg from hi0) ?_
          refine lv_aload_n hx hb dX7_litre_59 rfl (lv_at hl 0 rfl) ?_
          refine zk_get X hE sX7_litre_60 hP 0 rfl rfl ?_
          refine lv_bipush (v := 15) hx hb dX7_litre_63 (by decide) ?_
          refine zk_ald hx hb hE hP 1 15 rfl rfl (Nat.le_of_ble_eq_true rfl) (Nat.le_of_ble_eq_true rfl) dX7_litre_65 ?_
          refine zk_top (show (sg 15 : Int32) = nI (zfo (zru sg)) from hfo) ?_
          refine lv_icmp_ge (tgt := 73) hx hb dX7_litre_66 (by decide) (fun c_66 => ?_) (fun c_66 => ?_)
          · have k66 := zn_le c_66 (by omega) (by omega)
            refine lv_iload_n hx hb dX7_litre_73 rfl (lv_at hl 1 rfl) ?_
            refine zk_top (show (p0 : Int32) = nI p0.toNatClampNeg from hi0) ?_
            refine lv_aload_n hx hb dX7_litre_74 rfl (lv_at hl 0 rfl) ?_
            refine lv_aload_n hx hb dX7_litre_75 rfl (lv_at hl 0 rfl) ?_
            refine zk_get X hE sX7_litre_76 hP 0 rfl rfl ?_
            refine lv_bipush (v := 15) hx hb dX7_litre_79 (by decide) ?_
            refine zk_ald hx hb hE hP 1 15 rfl rfl (Nat.le_of_ble_eq_true rfl) (Nat.le_of_ble_eq_true rfl) dX7_litre_81 ?_
            refine zk_top (show (sg 15 : Int32) = nI (zfo (zru sg)) from hfo) ?_
            refine lv_aload_n hx hb dX7_litre_82 rfl (lv_at hl 0 rfl) ?_
            refine zk_get X hE sX7_litre_83 hP 0 rfl rfl ?_
            refine lv_bipush (v := 16) hx hb dX7_litre_86 (by decide) ?_
            refine zk_ald hx hb hE hP 1 16 rfl rfl (Nat.le_of_ble_eq_true rfl) (Nat.le_of_ble_eq_true rfl) dX7_litre_88 ?_
            refine zk_cVi (rest := [.int (nI p0.toNatClampNeg)]) (wr := [(st, .inl (cI, 75, .inl sg)), (pt, .inl (cI, 4, .inl gp_3)), (ch, .inl (cI, 4, .inl gc_4))]) X hE hA (c_X7_tailsFrom l D cI cZ ts mo st im iz go pt ch su kp hr bf bc bs bt gd gg_2 (zN (zpl sg) (zru sg) (zch sg (zkk sg))) (zfo (zru sg)) (sg 16) hn40 hf31) (cwV 2 hts gX7_litre_X7_tailsFrom rfl rfl rfl hdX7_tailsFrom ⟨Nat.le_of_ble_eq_true rfl, Nat.le_of_ble_eq_true rfl⟩) dX7_litre_89 hP hD hS [0, 2] [1, 3, 4] ⟨rfl, rfl, trivial⟩ ⟨rfl, rfl, rfl, trivial⟩ (by decide +kernel) (by decide +kernel) (by decide +kernel) 7 rfl rfl rfl hl rfl (Nat.le_of_ble_eq_true rfl) ⟨Nat.le_of_ble_eq_true rfl, Nat.le_of_ble_eq_true rfl⟩ (fun r_89 _ H locs hw_89 hP hD hS => ?_)
            have hP : va_P D vwCl [(st, .inl (cI, 75, .inl sg)), (pt, .inl (cI, 4, .inl gp_3)), (ch, .inl (cI, 4, .inl gc_4)), (mo, .inr (7, [.ref st, .ref im, .ref iz, .ref go, .int (nI (zN (zpl sg) (zru sg) (zch sg (zkk sg)))), .ref pt, .ref ch, .ref su, .ref kp, .ref hr, .int bf, .int bc, .int bs, .int bt, .int gd])), (go, .inl (cI, 160, .inl gg_2))] H := hP
            have hD : va_D A [(st, .inl (cI, 75, .inl sg)), (pt, .inl (cI, 4, .inl gp_3)), (ch, .inl (cI, 4, .inl gc_4)), (mo, .inr (7, [.ref st, .ref im, .ref iz, .ref go, .int (nI (zN (zpl sg) (zru sg) (zch sg (zkk sg)))), .ref pt, .ref ch, .ref su, .ref kp, .ref hr, .int bf, .int bc, .int bs, .int bt, .int gd])), (go, .inl (cI, 160, .inl gg_2))] := hD
            obtain rfl : r_89 = (nI (max (zfo (zru sg)) (zT (fun j => gg_2 (4 * j)) (zN (zpl sg) (zru sg) (zch sg (zkk sg))) (zfo (zru sg)) (sg 16)))) := hw_89
            refine lv_icmp_ge (tgt := 99) hx hb dX7_litre_92 (by decide) (fun c_92 => ?_) (fun c_92 => ?_)
            · have k92 := zn_le c_92 (by have := zT_in (fun j => gg_2 (4 * j)) (zN (zpl sg) (zru sg) (zch sg (zkk sg))) (zfo (zru sg)) (sg 16); omega) (by omega)
              refine lv_iconst (v := 2) hx hb dX7_litre_99 (by decide) ?_
              have hq := hret 2 (nI (zN (zpl sg) (zru sg) (zch sg (zkk sg))), gg_2, gp_3, gc_4) H locs 100 ls
              dsimp only at hq
              exact hq (by (try dsimp only); unfold zlitre; rw [if_pos c_15, if_pos c_26, if_neg c_34, e4, zlo_4 hi1, ← zT_congr (zgy_ar hw_1.1)]; first | exact (if_pos k66).symm | exact ((if_neg (by omega)).trans (if_pos k92)).symm | exact ((if_neg (by omega)).trans (if_neg (by exact Nat.not_lt_of_le k92))).symm) (zk_subP hP [3, 0, 4, 1, 2] ⟨rfl, rfl, rfl, rfl, rfl, trivial⟩) (zk_subD hD [3, 0, 4, 1, 2] (by decide +kernel) ⟨rfl, rfl, rfl, rfl, rfl, trivial⟩) hS dX7_litre_100
            · have k92 := zn_nle c_92 (by omega)
              refine lv_iconst (v := 1) hx hb dX7_litre_95 (by decide) ?_
              refine lv_goto (tgt := 100) hx hb dX7_litre_96 (by decide) ?_
              have hq := hret 1 (nI (zN (zpl sg) (zru sg) (zch sg (zkk sg))), gg_2, gp_3, gc_4) H locs 100 ls
              dsimp only at hq
              exact hq (by (try dsimp only); unfold zlitre; rw [if_pos c_15, if_pos c_26, if_neg c_34, e4, zlo_4 hi1, ← zT_congr (zgy_ar hw_1.1)]; first | exact (if_pos k66).symm | exact ((if_neg (by omega)).trans (if_pos k92)).symm | exact ((if_neg (by omega)).trans (if_neg (by exact Nat.not_lt_of_le k92))).symm) (zk_subP hP [3, 0, 4, 1, 2] ⟨rfl, rfl, rfl, rfl, rfl, trivial⟩) (zk_subD hD [3, 0, 4, 1, 2] (by decide +kernel) ⟨rfl, rfl, rfl, rfl, rfl, trivial⟩) hS dX7_litre_100
          · have k66 := zn_nle c_66 (by omega)
            refine lv_iconst (v := 0) hx hb dX7_litre_69 (by decide) ?_
            refine lv_goto (tgt := 100) hx hb dX7_litre_70 (by decide) ?_
            have hq := hret 0 (nI (zN (zpl sg) (zru sg) (zch sg (zkk sg))), gg_2, gp_3, gc_4) H locs 100 ls
            dsimp only at hq
            exact hq (by (try dsimp only); unfold zlitre; rw [if_pos c_15, if_pos c_26, if_neg c_34, e4, zlo_4 hi1, ← zT_congr (zgy_ar hw_1.1)]; first | exact (if_pos k66).symm | exact ((if_neg (by omega)).trans (if_pos k92)).symm | exact ((if_neg (by omega)).trans (if_neg (by exact Nat.not_lt_of_le k92))).symm) hP hD hS dX7_litre_100
        · rcases (show p1 = 0 ∨ p1 = 1 ∨ p1 = 2 ∨ p1 = 3 from zj_4 c_26 c_44) with rfl | rfl | rfl | rfl
          · have hl := hl
            refine lv_aload_n hx hb dX7_litre_47 rfl (lv_at hl 0 rfl) ?_
            refine zk_get X hE sX7_litre_48 hP 0 rfl rfl ?_
            refine lv_iconst (v := 4) hx hb dX7_litre_51 (by decide) ?_
            refine lv_iload_n hx hb dX7_litre_52 rfl (lv_at hl 1 rfl) ?_
            refine zk_top (show (p0 : Int32) = nI p0.toNatClampNeg from hi0) ?_
            refine lv_imul hx hb dX7_litre_53 ?_
            refine zk_top (show (4 * (nI p0.toNatClampNeg) : Int32) = nI (4 * p0.toNatClampNeg) from pk_mul 4 p0.toNatClampNeg) ?_
            refine lv_iload_n hx hb dX7_litre_54 rfl (lv_at hl 2 rfl) ?_
            refine lv_iadd hx hb dX7_litre_55 ?_
            refine zk_top (show ((nI (4 * p0.toNatClampNeg)) + 0 : Int32) = nI ((4 * p0.toNatClampNeg) + 0) from nI_add (4 * p0.toNatClampNeg) 0) ?_
            refine zk_ald hx hb hE hP 2 ((4 * p0.toNatClampNeg) + 0) rfl rfl (by omega) (Nat.le_of_ble_eq_true rfl) dX7_litre_56 ?_
            have hq := hret (gg_2 ((4 * p0.toNatClampNeg) + 0)) (nI (zN (zpl sg) (zru sg) (zch sg (zkk sg))), gg_2, gp_3, gc_4) H locs 57 ls
            dsimp only at hq
            exact hq (by (try dsimp only); unfold zlitre; rw [if_pos c_15, if_pos c_26, if_neg c_34]; first | exact (hw_1.1 _ hi1).1 | exact (hw_1.1 _ hi1).2.1 | exact (hw_1.1 _ hi1).2.2.1 | exact (hw_1.1 _ hi1).2.2.2) hP hD hS dX7_litre_57
          · have hl := hl
            refine lv_aload_n hx hb dX7_litre_47 rfl (lv_at hl 0 rfl) ?_
            refine zk_get X hE sX7_litre_48 hP 0 rfl rfl ?_
            refine lv_iconst (v := 4) hx hb dX7_litre_51 (by decide) ?_
            refine lv_iload_n hx hb dX7_litre_52 rfl (lv_at hl 1 rfl) ?_
            refine zk_top (show (p0 : Int32) = nI p0.toNatClampNeg from hi0) ?_
            refine lv_imul hx hb dX7_litre_53 ?_
            refine zk_top (show (4 * (nI p0.toNatClampNeg) : Int32) = nI (4 * p0.toNatClampNeg) from pk_mul 4 p0.toNatClampNeg) ?_
            refine lv_iload_n hx hb dX7_litre_54 rfl (lv_at hl 2 rfl) ?_
            refine lv_iadd hx hb dX7_litre_55 ?_
            refine zk_top (show ((nI (4 * p0.toNatClampNeg)) + 1 : Int32) = nI ((4 * p0.toNatClampNeg) + 1) from nI_add (4 * p0.toNatClampNeg) 1) ?_
            refine zk_ald hx hb hE hP 2 ((4 * p0.toNatClampNeg) + 1) rfl rfl (by omega) (Nat.le_of_ble_eq_true rfl) dX7_litre_56 ?_
            have hq := hret (gg_2 ((4 * p0.toNatClampNeg) + 1)) (nI (zN (zpl sg) (zru sg) (zch sg (zkk sg))), gg_2, gp_3, gc_4) H locs 57 ls
            dsimp only at hq
            exact hq (by (try dsimp only); unfold zlitre; rw [if_pos c_15, if_pos c_26, if_neg c_34]; first | exact (hw_1.1 _ hi1).1 | exact (hw_1.1 _ hi1).2.1 | exact (hw_1.1 _ hi1).2.2.1 | exact (hw_1.1 _ hi1).2.2.2) hP hD hS dX7_litre_57
          · have hl := hl
            refine lv_aload_n hx hb dX7_litre_47 rfl (lv_at hl 0 rfl) ?_
            refine zk_get X hE sX7_litre_48 hP 0 rfl rfl ?_
            refine lv_iconst (v := 4) hx hb dX7_litre_51 (by decide) ?_
            refine lv_iload_n hx hb dX7_litre_52 rfl (lv_at hl 1 rfl) ?_
            refine zk_top (show (p0 : Int32) = nI p0.toNatClampNeg from hi0) ?_
            refine lv_imul hx hb dX7_litre_53 ?_
            refine zk_top (show (4 * (nI p0.toNatClampNeg) : Int32) = nI (4 * p0.toNatClampNeg) from pk_mul 4 p0.toNatClampNeg) ?_
            refine lv_iload_n hx hb dX7_litre_54 rfl (lv_at hl 2 rfl) ?_
            refine lv_iadd hx hb dX7_litre_55 ?_
            refine zk_top (show ((nI (4 * p0.toNatClampNeg)) + 2 : Int32) = nI ((4 * p0.toNatClampNeg) + 2) from nI_add (4 * p0.toNatClampNeg) 2) ?_
            refine zk_ald hx hb hE hP 2 ((4 * p0.toNatClampNeg) + 2) rfl rfl (by omega) (Nat.le_of_ble_eq_true rfl) dX7_litre_56 ?_
            have hq := hret (gg_2 ((4 * p0.toNatClampNeg) + 2)) (nI (zN (zpl sg) (zru sg) (zch sg (zkk sg))), gg_2, gp_3, gc_4) H locs 57 ls
            dsimp only at hq
            exact hq (by (try dsimp only); unfold zlitre; rw [if_pos c_15, if_pos c_26, if_neg c_34]; first | exact (hw_1.1 _ hi1).1 | exact (hw_1.1 _ hi1).2.1 | exact (hw_1.1 _ hi1).2.2.1 | exact (hw_1.1 _ hi1).2.2.2) hP hD hS dX7_litre_57
          · have hl := hl
            refine lv_aload_n hx hb dX7_litre_47 rfl (lv_at hl 0 rfl) ?_
            refine zk_get X hE sX7_litre_48 hP 0 rfl rfl ?_
            refine lv_iconst (v := 4) hx hb dX7_litre_51 (by decide) ?_
            refine lv_iload_n hx hb dX7_litre_52 rfl (lv_at hl 1 rfl) ?_
            refine zk_top (show (p0 : Int32) = nI p0.toNatClampNeg from hi0) ?_
            refine lv_imul hx hb dX7_litre_53 ?_
            refine zk_top (show (4 * (nI p0.toNatClampNeg) : Int32) = nI (4 * p0.toNatClampNeg) from pk_mul 4 p0.toNatClampNeg) ?_
            refine lv_iload_n hx hb dX7_litre_54 rfl (lv_at hl 2 rfl) ?_
            refine lv_iadd hx hb dX7_litre_55 ?_
            refine zk_top (show ((nI (4 * p0.toNatClampNeg)) + 3 : Int32) = nI ((4 * p0.toNatClampNeg) + 3) from nI_add (4 * p0.toNatClampNeg) 3) ?_
            refine zk_ald hx hb hE hP 2 ((4 * p0.toNatClampNeg) + 3) rfl rfl (by omega) (Nat.le_of_ble_eq_true rfl) dX7_litre_56 ?_
            have hq := hret (gg_2 ((4 * p0.toNatClampNeg) + 3)) (nI (zN (zpl sg) (zru sg) (zch sg (zkk sg))), gg_2, gp_3, gc_4) H locs 57 ls
            dsimp only at hq
            exact hq (by (try dsimp only); unfold zlitre; rw [if_pos c_15, if_pos c_26, if_neg c_34]; first | exact (hw_1.1 _ hi1).1 | exact (hw_1.1 _ hi1).2.1 | exact (hw_1.1 _ hi1).2.2.1 | exact (hw_1.1 _ hi1).2.2.2) hP hD hS dX7_litre_57
      · refine lv_aload_n hx hb dX7_litre_37 rfl (lv_at hl 0 rfl) ?_
        refine zk_get X hE sX7_litre_38 hP 0 rfl rfl ?_
        have hq := hret (nI (zN (zpl sg) (zru sg) (zch sg (zkk sg)))) (nI (zN (zpl sg) (zru sg) (zch sg (zkk sg))), gg_2, gp_3, gc_4) H locs 41 ls
        dsimp only at hq
        exact hq (by (try dsimp only); unfold zlitre; rw [if_pos c_15, if_pos c_26, if_pos c_34]) hP hD hS dX7_litre_41
    · have c_26 : ¬ (0 ≤ p1 ∧ p1 ≤ 4) := zk_ite0 c_26
      refine lv_bipush (v := (-2)) hx hb dX7_litre_29 (by decide) ?_
      have hq := hret (-2) (nI (zN (zpl sg) (zru sg) (zch sg (zkk sg))), gg_2, gp_3, gc_4) H locs 31 ls
      dsimp only at hq
      exact hq (by (try dsimp only); unfold zlitre; rw [if_pos c_15, if_neg c_26]) hP hD hS dX7_litre_31
  · have c_15 : ¬ ((-1) ≤ p0 ∧ p0 ≤ ((nI (zN (zpl sg) (zru sg) (zch sg (zkk sg)))) - 1)) := zk_ite0 c_15
    refine lv_iconst (v := (-1)) hx hb dX7_litre_18 (by decide) ?_
    have hq := hret (-1) (nI (zN (zpl sg) (zru sg) (zch sg (zkk sg))), gg_2, gp_3, gc_4) H locs 19 ls
    dsimp only at hq
    exact hq (by (try dsimp only); unfold zlitre; rw [if_neg c_15]) hP hD hS dX7_litre_19
set_option maxHeartbeats 4000000 in
set_option maxRecDepth 100000 in
theorem c_X7_part_y (l : Launch) (D : va_G) (cI cZ : ClassId) (ts : Nat → Nat) (mo : Nat) (st : Nat) (im : Nat) (iz : Nat) (go : Nat) (pt : Nat) (ch : Nat) (su : Nat) (kp : Nat) (hr : Nat) (li : Int32) (bf : Int32) (bc : Int32) (bs : Int32) (bt : Int32) (gd : Int32) (sg : Nat → Int32) (fg : Nat → Int32) (fp : Nat → Int32) (fc : Nat → Int32) (fs : Nat → Int32) (p0 : Int32) (p1 : Int32) (hsl : 1 ≤ sg 19 ∧ sg 19 ≤ 99) (hsp : ∀ i, ¬ zP (zpl sg) (zru sg) (zch sg (zkk sg)) i 1 < 0) (hru : ¬ sg 15 < 0) (hc0 : ¬ (zch sg (zkk sg)) 0 < 0) (hP0 : ¬ zP (zpl sg) (zru sg) (zch sg (zkk sg)) (zN (zpl sg) (zru sg) (zch sg (zkk sg))) 0 < 0) (hC : (0 ≤ p0 ∧ p0 ≤ 4) ∧ 0 ≤ p1 ∧ p1 ≤ 5) : zk_Mi l yX7_part wsX7_part ({ frames := 3, cells := 0, slots := 0, locals := 71 } : Room) D cI cZ ts [.ref mo, .int p0, .int p1] [(mo, .inr (7, [.ref st, .ref im, .ref iz, .ref go, .int li, .ref pt, .ref ch, .ref su, .ref kp, .ref hr, .int bf, .int bc, .int bs, .int bt, .int gd])), (st, .inl (cI, 75, .inl sg)), (go, .inl (cI, 160, .inl fg)), (pt, .inl (cI, 4, .inl fp)), (ch, .inl (cI, 4, .inl fc)), (su, .inl (cI, 4, .inl fs))] (fun (r : Int32) (u : (Nat → Int32) × (Nat → Int32) × (Nat → Int32) × (Nat → Int32)) => r = (zpart (zpl sg) (zru sg) (zch sg (zkk sg)) p0 p1)) (fun (u : (Nat → Int32) × (Nat → Int32) × (Nat → Int32) × (Nat → Int32)) => [(mo, .inr (7, [.ref st, .ref im, .ref iz, .ref go, .int (nI (zN (zpl sg) (zru sg) (zch sg (zkk sg)))), .ref pt, .ref ch, .ref su, .ref kp, .ref hr, .int bf, .int bc, .int bs, .int bt, .int gd])), (st, .inl (cI, 75, .inl sg)), (go, .inl (cI, 160, .inl u.1)), (pt, .inl (cI, 4, .inl u.2.1)), (ch, .inl (cI, 4, .inl u.2.2.1)), (su, .inl (cI, 4, .inl u.2.2.2))]) 0 0 := by
  refine zk_Mi.of (cc := cX7_part) (maxL := 3) RX7 (by decide) rfl (Nat.le_of_ble_eq_true rfl) rfl ?_
  intro p e s m below meth c A Q H locs ls X hE hA hP hD hS hret hl
  obtain ⟨hx, hb, hml, hown, hts⟩ := id X
  have hl : lv_has ls 3 [(0, .ref mo), (1, .int p0), (2, .int p1)] := hl
  obtain ⟨hfo, hf31⟩ := zfo_eq (ru := zru sg) hru
  have hn40 := zN_le (zpl sg) (zru sg) (zch sg (zkk sg))
  refine lv_iload_n hx hb dX7_part_0 rfl (lv_at hl 1 rfl) ?_
  refine lv_iconst (v := 0) hx hb dX7_part_1 (by decide) ?_
  refine lv_iconst (v := 4) hx hb dX7_part_2 (by decide) ?_
  refine zk_cSi (rest := []) X hE hA (c_X7_in l D cI cZ ts p0 0 4) (cwS 3 hts gX7_part_X7_in rfl rfl rfl hdX7_in ⟨Nat.le_of_ble_eq_true rfl, Nat.le_of_ble_eq_true rfl⟩) dX7_part_3 hP hD hS rfl hl rfl (Nat.le_of_ble_eq_true rfl) ⟨Nat.le_of_ble_eq_true rfl, Nat.le_of_ble_eq_true rfl⟩ (fun r_3 _ H locs hw_3 hP hD hS => ?_)
  obtain rfl : r_3 = (if 0 ≤ p0 ∧ p0 ≤ 4 then 1 else 0) := hw_3
  refine lv_if_eq (tgt := 18) hx hb dX7_part_6 (by decide) (fun c_6 => absurd c_6 (by rw [if_pos hC.1]; decide)) (fun c_6 => ?_)
  have c_6 : 0 ≤ p0 ∧ p0 ≤ 4 := zk_ite1 c_6
  refine lv_iload_n hx hb dX7_part_9 rfl (lv_at hl 2 rfl) ?_
  refine lv_iconst (v := 0) hx hb dX7_part_10 (by decide) ?_
  refine lv_iconst (v := 5) hx hb dX7_part_11 (by decide) ?_
  refine zk_cSi (rest := []) X hE hA (c_X7_in l D cI cZ ts p1 0 5) (cwS 3 hts gX7_part_X7_in rfl rfl rfl hdX7_in ⟨Nat.le_of_ble_eq_true rfl, Nat.le_of_ble_eq_true rfl⟩) dX7_part_12 hP hD hS rfl hl rfl (Nat.le_of_ble_eq_true rfl) ⟨Nat.le_of_ble_eq_true rfl, Nat.le_of_ble_eq_true rfl⟩ (fun r_12 _ H locs hw_12 hP hD hS => ?_)
  obtain rfl : r_12 = (if 0 ≤ p1 ∧ p1 ≤ 5 then 1 else 0) := hw_12
  refine lv_if_ne (tgt := 21) hx hb dX7_part_15 (by decide) (fun c_15 => ?_) (fun c_15 => absurd c_15 (by rw [if_pos hC.2]; decide))
  have c_15 : 0 ≤ p1 ∧ p1 ≤ 5 := zk_ite1 c_15
  refine lv_aload_n hx hb dX7_part_21 rfl (lv_at hl 0 rfl) ?_
  refine zk_cVv (rest := []) (wr := [(su, .inl (cI, 4, .inl fs))]) X hE hA (c_X7_goNext l D cI cZ ts mo st im iz go pt ch su kp hr li bf bc bs bt gd sg fg fp fc (by first | assumption | omega) (by first | assumption | omega)) (cwV 0 hts gX7_part_X7_goNext rfl rfl rfl hdX7_goNext ⟨Nat.le_of_ble_eq_true rfl, Nat.le_of_ble_eq_true rfl⟩) dX7_part_22 hP hD hS [0, 1, 2, 3, 4] [5] ⟨rfl, rfl, rfl, rfl, rfl, trivial⟩ ⟨rfl, trivial⟩ (by decide +kernel) (by decide +kernel) (by decide +kernel) 7 rfl rfl rfl hl rfl (Nat.le_of_ble_eq_true rfl) ⟨Nat.le_of_ble_eq_true rfl, Nat.le_of_ble_eq_true rfl⟩ (fun u_22 H locs hw_22 hP hD hS => ?_)
  obtain ⟨nn_1, gg_2, gp_3, gc_4⟩ := u_22
  have hP : va_P D vwCl [(su, .inl (cI, 4, .inl fs)), (mo, .inr (7, [.ref st, .ref im, .ref iz, .ref go, .int (nI nn_1), .ref pt, .ref ch, .ref su, .ref kp, .ref hr, .int bf, .int bc, .int bs, .int bt, .int gd])), (st, .inl (cI, 75, .inl sg)), (go, .inl (cI, 160, .inl gg_2)), (pt, .inl (cI, 4, .inl gp_3)), (ch, .inl (cI, 4, .inl gc_4))] H := hP
  have hD : va_D A [(su, .inl (cI, 4, .inl fs)), (mo, .inr (7, [.ref st, .ref im, .ref iz, .ref go, .int (nI nn_1), .ref pt, .ref ch, .ref su, .ref kp, .ref hr, .int bf, .int bc, .int bs, .int bt, .int gd])), (st, .inl (cI, 75, .inl sg)), (go, .inl (cI, 160, .inl gg_2)), (pt, .inl (cI, 4, .inl gp_3)), (ch, .inl (cI, 4, .inl gc_4))] := hD
  obtain ⟨rfl, hw_22⟩ : nn_1 = (zN (zpl sg) (zru sg) (zch sg (zkk sg))) ∧ zgn (zpl sg) (zru sg) (zch sg (zkk sg)) gg_2 nn_1 ∧ zar gp_3 (zP (zpl sg) (zru sg) (zch sg (zkk sg)) nn_1) 4 ∧ zar gc_4 (zch sg (zkk sg)) 4 := hw_22
  have hP : va_P D vwCl [(su, .inl (cI, 4, .inl fs)), (mo, .inr (7, [.ref st, .ref im, .ref iz, .ref go, .int (nI (zN (zpl sg) (zru sg) (zch sg (zkk sg)))), .ref pt, .ref ch, .ref su, .ref kp, .ref hr, .int bf, .int bc, .int bs, .int bt, .int gd])), (st, .inl (cI, 75, .inl sg)), (go, .inl (cI, 160, .inl gg_2)), (pt, .inl (cI, 4, .inl gp_3)), (ch, .inl (cI, 4, .inl (zch sg (zkk sg))))] H := zk_arr hP (q0 := 5) rfl (hw_22.2.2)
  have hD : va_D A [(su, .inl (cI, 4, .inl fs)), (mo, .inr (7, [.ref st, .ref im, .ref iz, .ref go, .int (nI (zN (zpl sg) (zru sg) (zch sg (zkk sg)))), .ref pt, .ref ch, .ref su, .ref kp, .ref hr, .int bf, .int bc, .int bs, .int bt, .int gd])), (st, .inl (cI, 75, .inl sg)), (go, .inl (cI, 160, .inl gg_2)), (pt, .inl (cI, 4, .inl gp_3)), (ch, .inl (cI, 4, .inl (zch sg (zkk sg))))] := hD.set (p := 5) rfl
  have hP : va_P D vwCl [(su, .inl (cI, 4, .inl fs)), (mo, .inr (7, [.ref st, .ref im, .ref iz, .ref go, .int (nI (zN (zpl sg) (zru sg) (zch sg (zkk sg)))), .ref pt, .ref ch, .ref su, .ref kp, .ref hr, .int bf, .int bc, .int bs, .int bt, .int gd])), (st, .inl (cI, 75, .inl sg)), (go, .inl (cI, 160, .inl gg_2)), (pt, .inl (cI, 4, .inl (zP (zpl sg) (zru sg) (zch sg (zkk sg)) (zN (zpl sg) (zru sg) (zch sg (zkk sg)))))), (ch, .inl (cI, 4, .inl (zch sg (zkk sg))))] H := zk_arr hP (q0 := 4) rfl (hw_22.2.1)
  have hD : va_D A [(su, .inl (cI, 4, .inl fs)), (mo, .inr (7, [.ref st, .ref im, .ref iz, .ref go, .int (nI (zN (zpl sg) (zru sg) (zch sg (zkk sg)))), .ref pt, .ref ch, .ref su, .ref kp, .ref hr, .int bf, .int bc, .int bs, .int bt, .int gd])), (st, .inl (cI, 75, .inl sg)), (go, .inl (cI, 160, .inl gg_2)), (pt, .inl (cI, 4, .inl (zP (zpl sg) (zru sg) (zch sg (zkk sg)) (zN (zpl sg) (zru sg) (zch sg (zkk sg)))))), (ch, .inl (cI, 4, .inl (zch sg (zkk sg))))] := hD.set (p := 4) rfl
  refine lv_aload_n hx hb dX7_part_25 rfl (lv_at hl 0 rfl) ?_
  refine zk_cVv (rest := []) (wr := [(st, .inl (cI, 75, .inl sg)), (go, .inl (cI, 160, .inl gg_2)), (pt, .inl (cI, 4, .inl (zP (zpl sg) (zru sg) (zch sg (zkk sg)) (zN (zpl sg) (zru sg) (zch sg (zkk sg)))))), (ch, .inl (cI, 4, .inl (zch sg (zkk sg))))]) X hE hA (c_X7_beginSum l D cI cZ ts mo st im iz go pt ch su kp hr (nI (zN (zpl sg) (zru sg) (zch sg (zkk sg)))) bf bc bs bt gd fs) (cwV 0 hts gX7_part_X7_beginSum rfl rfl rfl hdX7_beginSum ⟨Nat.le_of_ble_eq_true rfl, Nat.le_of_ble_eq_true rfl⟩) dX7_part_26 hP hD hS [1, 0] [2, 3, 4, 5] ⟨rfl, rfl, trivial⟩ ⟨rfl, rfl, rfl, rfl, trivial⟩ (by decide +kernel) (by decide +kernel) (by decide +kernel) 7 rfl rfl rfl hl rfl (Nat.le_of_ble_eq_true rfl) ⟨Nat.le_of_ble_eq_true rfl, Nat.le_of_ble_eq_true rfl⟩ (fun _ H locs hw_26 hP hD hS => ?_)
  have hP : va_P D vwCl [(st, .inl (cI, 75, .inl sg)), (go, .inl (cI, 160, .inl gg_2)), (pt, .inl (cI, 4, .inl (zP (zpl sg) (zru sg) (zch sg (zkk sg)) (zN (zpl sg) (zru sg) (zch sg (zkk sg)))))), (ch, .inl (cI, 4, .inl (zch sg (zkk sg)))), (mo, .inr (7, [.ref st, .ref im, .ref iz, .ref go, .int (nI (zN (zpl sg) (zru sg) (zch sg (zkk sg)))), .ref pt, .ref ch, .ref su, .ref kp, .ref hr, .int bf, .int bc, .int bs, .int bt, .int gd])), (su, .inl (cI, 4, .inl (upd (upd (upd (upd fs 0 0) 1 0) 2 0) 3 0)))] H := hP
  have hD : va_D A [(st, .inl (cI, 75, .inl sg)), (go, .inl (cI, 160, .inl gg_2)), (pt, .inl (cI, 4, .inl (zP (zpl sg) (zru sg) (zch sg (zkk sg)) (zN (zpl sg) (zru sg) (zch sg (zkk sg)))))), (ch, .inl (cI, 4, .inl (zch sg (zkk sg)))), (mo, .inr (7, [.ref st, .ref im, .ref iz, .ref go, .int (nI (zN (zpl sg) (zru sg) (zch sg (zkk sg)))), .ref pt, .ref ch, .ref su, .ref kp, .ref hr, .int bf, .int bc, .int bs, .int bt, .int gd])), (su, .inl (cI, 4, .inl (upd (upd (upd (upd fs 0 0) 1 0) 2 0) 3 0)))] := hD
  refine lv_iload_n hx hb dX7_part_29 rfl (lv_at hl 1 rfl) ?_
  rcases (show p0 = 0 ∨ p0 = 1 ∨ p0 = 2 ∨ p0 = 3 ∨ p0 = 4 from zj_5 hC.1) with rfl | rfl | rfl | rfl | rfl
  · have hl := hl
    refine lv_tableIn (tgt := 60) hx hb dX7_part_30 (by decide) (by decide) rfl (by decide) ?_
    refine lv_iload_n hx hb dX7_part_60 rfl (lv_at hl 2 rfl) ?_
    refine lv_aload_n hx hb dX7_part_61 rfl (lv_at hl 0 rfl) ?_
    refine zk_get X hE sX7_part_62 hP 4 rfl rfl ?_
    refine lv_iconst (v := 0) hx hb dX7_part_65 (by decide) ?_
    refine zk_ald hx hb hE hP 3 0 rfl rfl (Nat.le_of_ble_eq_true rfl) (Nat.le_of_ble_eq_true rfl) dX7_part_66 ?_
    refine lv_aload_n hx hb dX7_part_67 rfl (lv_at hl 0 rfl) ?_
    refine zk_get X hE sX7_part_68 hP 4 rfl rfl ?_
    refine lv_iconst (v := 1) hx hb dX7_part_71 (by decide) ?_
    refine zk_ald hx hb hE hP 3 1 rfl rfl (Nat.le_of_ble_eq_true rfl) (Nat.le_of_ble_eq_true rfl) dX7_part_72 ?_
    refine lv_aload_n hx hb dX7_part_73 rfl (lv_at hl 0 rfl) ?_
    refine zk_get X hE sX7_part_74 hP 4 rfl rfl ?_
    refine lv_iconst (v := 2) hx hb dX7_part_77 (by decide) ?_
    refine zk_ald hx hb hE hP 3 2 rfl rfl (Nat.le_of_ble_eq_true rfl) (Nat.le_of_ble_eq_true rfl) dX7_part_78 ?_
    refine lv_aload_n hx hb dX7_part_79 rfl (lv_at hl 0 rfl) ?_
    refine zk_get X hE sX7_part_80 hP 4 rfl rfl ?_
    refine lv_iconst (v := 3) hx hb dX7_part_83 (by decide) ?_
    refine zk_ald hx hb hE hP 3 3 rfl rfl (Nat.le_of_ble_eq_true rfl) (Nat.le_of_ble_eq_true rfl) dX7_part_84 ?_
    refine zk_cSi (rest := []) X hE hA (c_X7_ofLiquid l D cI cZ ts p1 ((zch sg (zkk sg)) 0) ((zch sg (zkk sg)) 1) ((zch sg (zkk sg)) 2) ((zch sg (zkk sg)) 3) hc0) (cwS 5 hts gX7_part_X7_ofLiquid rfl rfl rfl hdX7_ofLiquid ⟨Nat.le_of_ble_eq_true rfl, Nat.le_of_ble_eq_true rfl⟩) dX7_part_85 hP hD hS rfl hl rfl (Nat.le_of_ble_eq_true rfl) ⟨Nat.le_of_ble_eq_true rfl, Nat.le_of_ble_eq_true rfl⟩ (fun r_85 _ H locs hw_85 hP hD hS => ?_)
    obtain rfl : r_85 = (zt p1 ((zch sg (zkk sg)) 0) ((zch sg (zkk sg)) 1) ((zch sg (zkk sg)) 2) ((zch sg (zkk sg)) 3)) := hw_85
    have hq := hret (zt p1 ((zch sg (zkk sg)) 0) ((zch sg (zkk sg)) 1) ((zch sg (zkk sg)) 2) ((zch sg (zkk sg)) 3)) (gg_2, zP (zpl sg) (zru sg) (zch sg (zkk sg)) (zN (zpl sg) (zru sg) (zch sg (zkk sg))), zch sg (zkk sg), upd (upd (upd (upd fs 0 0) 1 0) 2 0) 3 0) H locs 88 ls
    dsimp only at hq
    exact hq (by (try dsimp only); unfold zpart; rw [if_pos hC]; rfl) (zk_subP hP [4, 0, 1, 2, 3, 5] ⟨rfl, rfl, rfl, rfl, rfl, rfl, trivial⟩) (zk_subD hD [4, 0, 1, 2, 3, 5] (by decide +kernel) ⟨rfl, rfl, rfl, rfl, rfl, rfl, trivial⟩) hS dX7_part_88
  · have hl := hl
    refine lv_tableIn (tgt := 89) hx hb dX7_part_30 (by decide) (by decide) rfl (by decide) ?_
    refine lv_aload_n hx hb dX7_part_89 rfl (lv_at hl 0 rfl) ?_
    refine lv_iconst (v := 0) hx hb dX7_part_90 (by decide) ?_
    refine lv_aload_n hx hb dX7_part_91 rfl (lv_at hl 0 rfl) ?_
    refine zk_get X hE sX7_part_92 hP 4 rfl rfl ?_
    refine lv_bipush (v := 15) hx hb dX7_part_95 (by decide) ?_
    refine zk_ald hx hb hE hP 0 15 rfl rfl (Nat.le_of_ble_eq_true rfl) (Nat.le_of_ble_eq_true rfl) dX7_part_97 ?_
    refine zk_top (show (sg 15 : Int32) = nI (zfo (zru sg)) from hfo) ?_
    refine zk_cVv (rest := []) (wr := [(st, .inl (cI, 75, .inl sg)), (pt, .inl (cI, 4, .inl (zP (zpl sg) (zru sg) (zch sg (zkk sg)) (zN (zpl sg) (zru sg) (zch sg (zkk sg)))))), (ch, .inl (cI, 4, .inl (zch sg (zkk sg))))]) X hE hA (c_X7_addLitres l D cI cZ ts mo st im iz go pt ch su kp hr bf bc bs bt gd gg_2 (upd (upd (upd (upd fs 0 0) 1 0) 2 0) 3 0) (zN (zpl sg) (zru sg) (zch sg (zkk sg))) 0 (zfo (zru sg)) hn40 (by decide) hf31) (cwV 2 hts gX7_part_X7_addLitres rfl rfl rfl hdX7_addLitres ⟨Nat.le_of_ble_eq_true rfl, Nat.le_of_ble_eq_true rfl⟩) dX7_part_98 hP hD hS [4, 1, 5] [0, 2, 3] ⟨rfl, rfl, rfl, trivial⟩ ⟨rfl, rfl, rfl, trivial⟩ (by decide +kernel) (by decide +kernel) (by decide +kernel) 7 rfl rfl rfl hl rfl (Nat.le_of_ble_eq_true rfl) ⟨Nat.le_of_ble_eq_true rfl, Nat.le_of_ble_eq_true rfl⟩ (fun u_98 H locs hw_98 hP hD hS => ?_)
    obtain ⟨ft_5, rfl⟩ : ∃ z, z = u_98 := ⟨_, rfl⟩
    have hP : va_P D vwCl [(st, .inl (cI, 75, .inl sg)), (pt, .inl (cI, 4, .inl (zP (zpl sg) (zru sg) (zch sg (zkk sg)) (zN (zpl sg) (zru sg) (zch sg (zkk sg)))))), (ch, .inl (cI, 4, .inl (zch sg (zkk sg)))), (mo, .inr (7, [.ref st, .ref im, .ref iz, .ref go, .int (nI (zN (zpl sg) (zru sg) (zch sg (zkk sg)))), .ref pt, .ref ch, .ref su, .ref kp, .ref hr, .int bf, .int bc, .int bs, .int bt, .int gd])), (go, .inl (cI, 160, .inl gg_2)), (su, .inl (cI, 4, .inl ft_5))] H := hP
    have hD : va_D A [(st, .inl (cI, 75, .inl sg)), (pt, .inl (cI, 4, .inl (zP (zpl sg) (zru sg) (zch sg (zkk sg)) (zN (zpl sg) (zru sg) (zch sg (zkk sg)))))), (ch, .inl (cI, 4, .inl (zch sg (zkk sg)))), (mo, .inr (7, [.ref st, .ref im, .ref iz, .ref go, .int (nI (zN (zpl sg) (zru sg) (zch sg (zkk sg)))), .ref pt, .ref ch, .ref su, .ref kp, .ref hr, .int bf, .int bc, .int bs, .int bt, .int gd])), (go, .inl (cI, 160, .inl gg_2)), (su, .inl (cI, 4, .inl ft_5))] := hD
    have hw_98 : zar ft_5 (zsum (upd (upd (upd (upd fs 0 0) 1 0) 2 0) 3 0) gg_2 0 (max 0 (min (zfo (zru sg)) (zN (zpl sg) (zru sg) (zch sg (zkk sg)))))) 4 := hw_98
    have hP : va_P D vwCl [(st, .inl (cI, 75, .inl sg)), (pt, .inl (cI, 4, .inl (zP (zpl sg) (zru sg) (zch sg (zkk sg)) (zN (zpl sg) (zru sg) (zch sg (zkk sg)))))), (ch, .inl (cI, 4, .inl (zch sg (zkk sg)))), (mo, .inr (7, [.ref st, .ref im, .ref iz, .ref go, .int (nI (zN (zpl sg) (zru sg) (zch sg (zkk sg)))), .ref pt, .ref ch, .ref su, .ref kp, .ref hr, .int bf, .int bc, .int bs, .int bt, .int gd])), (go, .inl (cI, 160, .inl gg_2)), (su, .inl (cI, 4, .inl (zA (zpl sg) (zru sg) (zch sg (zkk sg)))))] H := zk_arr hP (q0 := 5) rfl (fun t ht => (hw_98 t ht).trans (zsumA ht hw_22.1 (zar_4 (g := upd (upd (upd (upd fs 0 0) 1 0) 2 0) 3 0) (F := fun _ => 0) rfl rfl rfl rfl t ht)))
    have hD : va_D A [(st, .inl (cI, 75, .inl sg)), (pt, .inl (cI, 4, .inl (zP (zpl sg) (zru sg) (zch sg (zkk sg)) (zN (zpl sg) (zru sg) (zch sg (zkk sg)))))), (ch, .inl (cI, 4, .inl (zch sg (zkk sg)))), (mo, .inr (7, [.ref st, .ref im, .ref iz, .ref go, .int (nI (zN (zpl sg) (zru sg) (zch sg (zkk sg)))), .ref pt, .ref ch, .ref su, .ref kp, .ref hr, .int bf, .int bc, .int bs, .int bt, .int gd])), (go, .inl (cI, 160, .inl gg_2)), (su, .inl (cI, 4, .inl (zA (zpl sg) (zru sg) (zch sg (zkk sg)))))] := hD.set (p := 5) rfl
    refine lv_aload_n hx hb dX7_part_101 rfl (lv_at hl 0 rfl) ?_
    refine lv_iload_n hx hb dX7_part_102 rfl (lv_at hl 2 rfl) ?_
    refine zk_cVi (rest := []) (wr := [(st, .inl (cI, 75, .inl sg)), (pt, .inl (cI, 4, .inl (zP (zpl sg) (zru sg) (zch sg (zkk sg)) (zN (zpl sg) (zru sg) (zch sg (zkk sg)))))), (ch, .inl (cI, 4, .inl (zch sg (zkk sg)))), (go, .inl (cI, 160, .inl gg_2))]) X hE hA (c_X7_ofSum l D cI cZ ts mo st im iz go pt ch su kp hr (nI (zN (zpl sg) (zru sg) (zch sg (zkk sg)))) bf bc bs bt gd (zA (zpl sg) (zru sg) (zch sg (zkk sg))) p1 (zA_0p _ _ _)) (cwV 1 hts gX7_part_X7_ofSum rfl rfl rfl hdX7_ofSum ⟨Nat.le_of_ble_eq_true rfl, Nat.le_of_ble_eq_true rfl⟩) dX7_part_103 hP hD hS [3, 5] [0, 1, 2, 4] ⟨rfl, rfl, trivial⟩ ⟨rfl, rfl, rfl, rfl, trivial⟩ (by decide +kernel) (by decide +kernel) (by decide +kernel) 7 rfl rfl rfl hl rfl (Nat.le_of_ble_eq_true rfl) ⟨Nat.le_of_ble_eq_true rfl, Nat.le_of_ble_eq_true rfl⟩ (fun r_103 _ H locs hw_103 hP hD hS => ?_)
    have hP : va_P D vwCl [(st, .inl (cI, 75, .inl sg)), (pt, .inl (cI, 4, .inl (zP (zpl sg) (zru sg) (zch sg (zkk sg)) (zN (zpl sg) (zru sg) (zch sg (zkk sg)))))), (ch, .inl (cI, 4, .inl (zch sg (zkk sg)))), (go, .inl (cI, 160, .inl gg_2)), (mo, .inr (7, [.ref st, .ref im, .ref iz, .ref go, .int (nI (zN (zpl sg) (zru sg) (zch sg (zkk sg)))), .ref pt, .ref ch, .ref su, .ref kp, .ref hr, .int bf, .int bc, .int bs, .int bt, .int gd])), (su, .inl (cI, 4, .inl (zA (zpl sg) (zru sg) (zch sg (zkk sg)))))] H := hP
    have hD : va_D A [(st, .inl (cI, 75, .inl sg)), (pt, .inl (cI, 4, .inl (zP (zpl sg) (zru sg) (zch sg (zkk sg)) (zN (zpl sg) (zru sg) (zch sg (zkk sg)))))), (ch, .inl (cI, 4, .inl (zch sg (zkk sg)))), (go, .inl (cI, 160, .inl gg_2)), (mo, .inr (7, [.ref st, .ref im, .ref iz, .ref go, .int (nI (zN (zpl sg) (zru sg) (zch sg (zkk sg)))), .ref pt, .ref ch, .ref su, .ref kp, .ref hr, .int bf, .int bc, .int bs, .int bt, .int gd])), (su, .inl (cI, 4, .inl (zA (zpl sg) (zru sg) (zch sg (zkk sg)))))] := hD
    obtain rfl : r_103 = (zl4 p1 (zA (zpl sg) (zru sg) (zch sg (zkk sg)))) := hw_103
    have hq := hret (zl4 p1 (zA (zpl sg) (zru sg) (zch sg (zkk sg)))) (gg_2, zP (zpl sg) (zru sg) (zch sg (zkk sg)) (zN (zpl sg) (zru sg) (zch sg (zkk sg))), zch sg (zkk sg), zA (zpl sg) (zru sg) (zch sg (zkk sg))) H locs 106 ls
    dsimp only at hq
    exact hq (by (try dsimp only); unfold zpart; rw [if_pos hC]; rfl) (zk_subP hP [4, 0, 3, 1, 2, 5] ⟨rfl, rfl, rfl, rfl, rfl, rfl, trivial⟩) (zk_subD hD [4, 0, 3, 1, 2, 5] (by decide +kernel) ⟨rfl, rfl, rfl, rfl, rfl, rfl, trivial⟩) hS dX7_part_106
  · have hl := hl
    refine lv_tableIn (tgt := 107) hx hb dX7_part_30 (by decide) (by decide) rfl (by decide) ?_
    refine lv_aload_n hx hb dX7_part_107 rfl (lv_at hl 0 rfl) ?_
    refine lv_aload_n hx hb dX7_part_108 rfl (lv_at hl 0 rfl) ?_
    refine zk_get X hE sX7_part_109 hP 4 rfl rfl ?_
    refine lv_bipush (v := 15) hx hb dX7_part_112 (by decide) ?_
    refine zk_ald hx hb hE hP 0 15 rfl rfl (Nat.le_of_ble_eq_true rfl) (Nat.le_of_ble_eq_true rfl) dX7_part_114 ?_
    refine zk_top (show (sg 15 : Int32) = nI (zfo (zru sg)) from hfo) ?_
    refine lv_aload_n hx hb dX7_part_115 rfl (lv_at hl 0 rfl) ?_
    refine zk_get X hE sX7_part_116 hP 4 rfl rfl ?_
    refine lv_bipush (v := 16) hx hb dX7_part_119 (by decide) ?_
    refine zk_ald hx hb hE hP 0 16 rfl rfl (Nat.le_of_ble_eq_true rfl) (Nat.le_of_ble_eq_true rfl) dX7_part_121 ?_
    refine zk_cVv (rest := []) (wr := [(st, .inl (cI, 75, .inl sg)), (pt, .inl (cI, 4, .inl (zP (zpl sg) (zru sg) (zch sg (zkk sg)) (zN (zpl sg) (zru sg) (zch sg (zkk sg)))))), (ch, .inl (cI, 4, .inl (zch sg (zkk sg))))]) X hE hA (c_X7_sumHeart l D cI cZ ts mo st im iz go pt ch su kp hr bf bc bs bt gd gg_2 (upd (upd (upd (upd fs 0 0) 1 0) 2 0) 3 0) (zN (zpl sg) (zru sg) (zch sg (zkk sg))) (zfo (zru sg)) (sg 16) hn40 hf31) (cwV 2 hts gX7_part_X7_sumHeart rfl rfl rfl hdX7_sumHeart ⟨Nat.le_of_ble_eq_true rfl, Nat.le_of_ble_eq_true rfl⟩) dX7_part_122 hP hD hS [4, 1, 5] [0, 2, 3] ⟨rfl, rfl, rfl, trivial⟩ ⟨rfl, rfl, rfl, trivial⟩ (by decide +kernel) (by decide +kernel) (by decide +kernel) 7 rfl rfl rfl hl rfl (Nat.le_of_ble_eq_true rfl) ⟨Nat.le_of_ble_eq_true rfl, Nat.le_of_ble_eq_true rfl⟩ (fun u_122 H locs hw_122 hP hD hS => ?_)
    obtain ⟨ft_6, rfl⟩ : ∃ z, z = u_122 := ⟨_, rfl⟩
    have hP : va_P D vwCl [(st, .inl (cI, 75, .inl sg)), (pt, .inl (cI, 4, .inl (zP (zpl sg) (zru sg) (zch sg (zkk sg)) (zN (zpl sg) (zru sg) (zch sg (zkk sg)))))), (ch, .inl (cI, 4, .inl (zch sg (zkk sg)))), (mo, .inr (7, [.ref st, .ref im, .ref iz, .ref go, .int (nI (zN (zpl sg) (zru sg) (zch sg (zkk sg)))), .ref pt, .ref ch, .ref su, .ref kp, .ref hr, .int bf, .int bc, .int bs, .int bt, .int gd])), (go, .inl (cI, 160, .inl gg_2)), (su, .inl (cI, 4, .inl ft_6))] H := hP
    have hD : va_D A [(st, .inl (cI, 75, .inl sg)), (pt, .inl (cI, 4, .inl (zP (zpl sg) (zru sg) (zch sg (zkk sg)) (zN (zpl sg) (zru sg) (zch sg (zkk sg)))))), (ch, .inl (cI, 4, .inl (zch sg (zkk sg)))), (mo, .inr (7, [.ref st, .ref im, .ref iz, .ref go, .int (nI (zN (zpl sg) (zru sg) (zch sg (zkk sg)))), .ref pt, .ref ch, .ref su, .ref kp, .ref hr, .int bf, .int bc, .int bs, .int bt, .int gd])), (go, .inl (cI, 160, .inl gg_2)), (su, .inl (cI, 4, .inl ft_6))] := hD
    have hw_122 : zar ft_6 (fun t => zG (zcm gg_2 t) (min (zfo (zru sg)) (zN (zpl sg) (zru sg) (zch sg (zkk sg)))) (zT (fun j => gg_2 (4 * j)) (zN (zpl sg) (zru sg) (zch sg (zkk sg))) (zfo (zru sg)) (sg 16))) 4 := hw_122
    have hP : va_P D vwCl [(st, .inl (cI, 75, .inl sg)), (pt, .inl (cI, 4, .inl (zP (zpl sg) (zru sg) (zch sg (zkk sg)) (zN (zpl sg) (zru sg) (zch sg (zkk sg)))))), (ch, .inl (cI, 4, .inl (zch sg (zkk sg)))), (mo, .inr (7, [.ref st, .ref im, .ref iz, .ref go, .int (nI (zN (zpl sg) (zru sg) (zch sg (zkk sg)))), .ref pt, .ref ch, .ref su, .ref kp, .ref hr, .int bf, .int bc, .int bs, .int bt, .int gd])), (go, .inl (cI, 160, .inl gg_2)), (su, .inl (cI, 4, .inl (zB (zpl sg) (zru sg) (zch sg (zkk sg)))))] H := zk_arr hP (q0 := 5) rfl (fun t ht => (hw_122 t ht).trans (zheart_run ht hw_22.1))
    have hD : va_D A [(st, .inl (cI, 75, .inl sg)), (pt, .inl (cI, 4, .inl (zP (zpl sg) (zru sg) (zch sg (zkk sg)) (zN (zpl sg) (zru sg) (zch sg (zkk sg)))))), (ch, .inl (cI, 4, .inl (zch sg (zkk sg)))), (mo, .inr (7, [.ref st, .ref im, .ref iz, .ref go, .int (nI (zN (zpl sg) (zru sg) (zch sg (zkk sg)))), .ref pt, .ref ch, .ref su, .ref kp, .ref hr, .int bf, .int bc, .int bs, .int bt, .int gd])), (go, .inl (cI, 160, .inl gg_2)), (su, .inl (cI, 4, .inl (zB (zpl sg) (zru sg) (zch sg (zkk sg)))))] := hD.set (p := 5) rfl
    refine lv_aload_n hx hb dX7_part_125 rfl (lv_at hl 0 rfl) ?_
    refine lv_iload_n hx hb dX7_part_126 rfl (lv_at hl 2 rfl) ?_
    refine zk_cVi (rest := []) (wr := [(st, .inl (cI, 75, .inl sg)), (pt, .inl (cI, 4, .inl (zP (zpl sg) (zru sg) (zch sg (zkk sg)) (zN (zpl sg) (zru sg) (zch sg (zkk sg)))))), (ch, .inl (cI, 4, .inl (zch sg (zkk sg)))), (go, .inl (cI, 160, .inl gg_2))]) X hE hA (c_X7_ofSum l D cI cZ ts mo st im iz go pt ch su kp hr (nI (zN (zpl sg) (zru sg) (zch sg (zkk sg)))) bf bc bs bt gd (zB (zpl sg) (zru sg) (zch sg (zkk sg))) p1 (zBc_0p _ _ _ _ _)) (cwV 1 hts gX7_part_X7_ofSum rfl rfl rfl hdX7_ofSum ⟨Nat.le_of_ble_eq_true rfl, Nat.le_of_ble_eq_true rfl⟩) dX7_part_127 hP hD hS [3, 5] [0, 1, 2, 4] ⟨rfl, rfl, trivial⟩ ⟨rfl, rfl, rfl, rfl, trivial⟩ (by decide +kernel) (by decide +kernel) (by decide +kernel) 7 rfl rfl rfl hl rfl (Nat.le_of_ble_eq_true rfl) ⟨Nat.le_of_ble_eq_true rfl, Nat.le_of_ble_eq_true rfl⟩ (fun r_127 _ H locs hw_127 hP hD hS => ?_)
    have hP : va_P D vwCl [(st, .inl (cI, 75, .inl sg)), (pt, .inl (cI, 4, .inl (zP (zpl sg) (zru sg) (zch sg (zkk sg)) (zN (zpl sg) (zru sg) (zch sg (zkk sg)))))), (ch, .inl (cI, 4, .inl (zch sg (zkk sg)))), (go, .inl (cI, 160, .inl gg_2)), (mo, .inr (7, [.ref st, .ref im, .ref iz, .ref go, .int (nI (zN (zpl sg) (zru sg) (zch sg (zkk sg)))), .ref pt, .ref ch, .ref su, .ref kp, .ref hr, .int bf, .int bc, .int bs, .int bt, .int gd])), (su, .inl (cI, 4, .inl (zB (zpl sg) (zru sg) (zch sg (zkk sg)))))] H := hP
    have hD : va_D A [(st, .inl (cI, 75, .inl sg)), (pt, .inl (cI, 4, .inl (zP (zpl sg) (zru sg) (zch sg (zkk sg)) (zN (zpl sg) (zru sg) (zch sg (zkk sg)))))), (ch, .inl (cI, 4, .inl (zch sg (zkk sg)))), (go, .inl (cI, 160, .inl gg_2)), (mo, .inr (7, [.ref st, .ref im, .ref iz, .ref go, .int (nI (zN (zpl sg) (zru sg) (zch sg (zkk sg)))), .ref pt, .ref ch, .ref su, .ref kp, .ref hr, .int bf, .int bc, .int bs, .int bt, .int gd])), (su, .inl (cI, 4, .inl (zB (zpl sg) (zru sg) (zch sg (zkk sg)))))] := hD
    obtain rfl : r_127 = (zl4 p1 (zB (zpl sg) (zru sg) (zch sg (zkk sg)))) := hw_127
    have hq := hret (zl4 p1 (zB (zpl sg) (zru sg) (zch sg (zkk sg)))) (gg_2, zP (zpl sg) (zru sg) (zch sg (zkk sg)) (zN (zpl sg) (zru sg) (zch sg (zkk sg))), zch sg (zkk sg), zB (zpl sg) (zru sg) (zch sg (zkk sg))) H locs 130 ls
    dsimp only at hq
    exact hq (by (try dsimp only); unfold zpart; rw [if_pos hC]; rfl) (zk_subP hP [4, 0, 3, 1, 2, 5] ⟨rfl, rfl, rfl, rfl, rfl, rfl, trivial⟩) (zk_subD hD [4, 0, 3, 1, 2, 5] (by decide +kernel) ⟨rfl, rfl, rfl, rfl, rfl, rfl, trivial⟩) hS dX7_part_130
  · have hl := hl
    refine lv_tableIn (tgt := 131) hx hb dX7_part_30 (by decide) (by decide) rfl (by decide) ?_
    refine lv_aload_n hx hb dX7_part_131 rfl (lv_at hl 0 rfl) ?_
    refine lv_aload_n hx hb dX7_part_132 rfl (lv_at hl 0 rfl) ?_
    refine lv_aload_n hx hb dX7_part_133 rfl (lv_at hl 0 rfl) ?_
    refine zk_get X hE sX7_part_134 hP 4 rfl rfl ?_
    refine lv_bipush (v := 15) hx hb dX7_part_137 (by decide) ?_
    refine zk_ald hx hb hE hP 0 15 rfl rfl (Nat.le_of_ble_eq_true rfl) (Nat.le_of_ble_eq_true rfl) dX7_part_139 ?_
    refine zk_top (show (sg 15 : Int32) = nI (zfo (zru sg)) from hfo) ?_
    refine lv_aload_n hx hb dX7_part_140 rfl (lv_at hl 0 rfl) ?_
    refine zk_get X hE sX7_part_141 hP 4 rfl rfl ?_
    refine lv_bipush (v := 16) hx hb dX7_part_144 (by decide) ?_
    refine zk_ald hx hb hE hP 0 16 rfl rfl (Nat.le_of_ble_eq_true rfl) (Nat.le_of_ble_eq_true rfl) dX7_part_146 ?_
    refine zk_cVi (rest := [.ref mo]) (wr := [(st, .inl (cI, 75, .inl sg)), (pt, .inl (cI, 4, .inl (zP (zpl sg) (zru sg) (zch sg (zkk sg)) (zN (zpl sg) (zru sg) (zch sg (zkk sg)))))), (ch, .inl (cI, 4, .inl (zch sg (zkk sg)))), (su, .inl (cI, 4, .inl (upd (upd (upd (upd fs 0 0) 1 0) 2 0) 3 0)))]) X hE hA (c_X7_tailsFrom l D cI cZ ts mo st im iz go pt ch su kp hr bf bc bs bt gd gg_2 (zN (zpl sg) (zru sg) (zch sg (zkk sg))) (zfo (zru sg)) (sg 16) hn40 hf31) (cwV 2 hts gX7_part_X7_tailsFrom rfl rfl rfl hdX7_tailsFrom ⟨Nat.le_of_ble_eq_true rfl, Nat.le_of_ble_eq_true rfl⟩) dX7_part_147 hP hD hS [4, 1] [0, 2, 3, 5] ⟨rfl, rfl, trivial⟩ ⟨rfl, rfl, rfl, rfl, trivial⟩ (by decide +kernel) (by decide +kernel) (by decide +kernel) 7 rfl rfl rfl hl rfl (Nat.le_of_ble_eq_true rfl) ⟨Nat.le_of_ble_eq_true rfl, Nat.le_of_ble_eq_true rfl⟩ (fun r_147 _ H locs hw_147 hP hD hS => ?_)
    have hP : va_P D vwCl [(st, .inl (cI, 75, .inl sg)), (pt, .inl (cI, 4, .inl (zP (zpl sg) (zru sg) (zch sg (zkk sg)) (zN (zpl sg) (zru sg) (zch sg (zkk sg)))))), (ch, .inl (cI, 4, .inl (zch sg (zkk sg)))), (su, .inl (cI, 4, .inl (upd (upd (upd (upd fs 0 0) 1 0) 2 0) 3 0))), (mo, .inr (7, [.ref st, .ref im, .ref iz, .ref go, .int (nI (zN (zpl sg) (zru sg) (zch sg (zkk sg)))), .ref pt, .ref ch, .ref su, .ref kp, .ref hr, .int bf, .int bc, .int bs, .int bt, .int gd])), (go, .inl (cI, 160, .inl gg_2))] H := hP
    have hD : va_D A [(st, .inl (cI, 75, .inl sg)), (pt, .inl (cI, 4, .inl (zP (zpl sg) (zru sg) (zch sg (zkk sg)) (zN (zpl sg) (zru sg) (zch sg (zkk sg)))))), (ch, .inl (cI, 4, .inl (zch sg (zkk sg)))), (su, .inl (cI, 4, .inl (upd (upd (upd (upd fs 0 0) 1 0) 2 0) 3 0))), (mo, .inr (7, [.ref st, .ref im, .ref iz, .ref go, .int (nI (zN (zpl sg) (zru sg) (zch sg (zkk sg)))), .ref pt, .ref ch, .ref su, .ref kp, .ref hr, .int bf, .int bc, .int bs, .int bt, .int gd])), (go, .inl (cI, 160, .inl gg_2))] := hD
    obtain rfl : r_147 = (nI (max (zfo (zru sg)) (zT (fun j => gg_2 (4 * j)) (zN (zpl sg) (zru sg) (zch sg (zkk sg))) (zfo (zru sg)) (sg 16)))) := hw_147
    refine lv_bipush (v := 40) hx hb dX7_part_150 (by decide) ?_
    have hTi := zT_in (fun j => gg_2 (4 * j)) (zN (zpl sg) (zru sg) (zch sg (zkk sg))) (zfo (zru sg)) (sg 16)
    refine zk_cVv (rest := []) (wr := [(st, .inl (cI, 75, .inl sg)), (pt, .inl (cI, 4, .inl (zP (zpl sg) (zru sg) (zch sg (zkk sg)) (zN (zpl sg) (zru sg) (zch sg (zkk sg)))))), (ch, .inl (cI, 4, .inl (zch sg (zkk sg))))]) X hE hA (c_X7_addLitres l D cI cZ ts mo st im iz go pt ch su kp hr bf bc bs bt gd gg_2 (upd (upd (upd (upd fs 0 0) 1 0) 2 0) 3 0) (zN (zpl sg) (zru sg) (zch sg (zkk sg))) (max (zfo (zru sg)) (zT (fun j => gg_2 (4 * j)) (zN (zpl sg) (zru sg) (zch sg (zkk sg))) (zfo (zru sg)) (sg 16))) 40 hn40 (by omega) (by decide)) (cwV 2 hts gX7_part_X7_addLitres rfl rfl rfl hdX7_addLitres ⟨Nat.le_of_ble_eq_true rfl, Nat.le_of_ble_eq_true rfl⟩) dX7_part_152 hP hD hS [4, 5, 3] [0, 1, 2] ⟨rfl, rfl, rfl, trivial⟩ ⟨rfl, rfl, rfl, trivial⟩ (by decide +kernel) (by decide +kernel) (by decide +kernel) 7 rfl rfl rfl hl rfl (Nat.le_of_ble_eq_true rfl) ⟨Nat.le_of_ble_eq_true rfl, Nat.le_of_ble_eq_true rfl⟩ (fun u_152 H locs hw_152 hP hD hS => ?_)
    obtain ⟨ft_7, rfl⟩ : ∃ z, z = u_152 := ⟨_, rfl⟩
    have hP : va_P D vwCl [(st, .inl (cI, 75, .inl sg)), (pt, .inl (cI, 4, .inl (zP (zpl sg) (zru sg) (zch sg (zkk sg)) (zN (zpl sg) (zru sg) (zch sg (zkk sg)))))), (ch, .inl (cI, 4, .inl (zch sg (zkk sg)))), (mo, .inr (7, [.ref st, .ref im, .ref iz, .ref go, .int (nI (zN (zpl sg) (zru sg) (zch sg (zkk sg)))), .ref pt, .ref ch, .ref su, .ref kp, .ref hr, .int bf, .int bc, .int bs, .int bt, .int gd])), (go, .inl (cI, 160, .inl gg_2)), (su, .inl (cI, 4, .inl ft_7))] H := hP
    have hD : va_D A [(st, .inl (cI, 75, .inl sg)), (pt, .inl (cI, 4, .inl (zP (zpl sg) (zru sg) (zch sg (zkk sg)) (zN (zpl sg) (zru sg) (zch sg (zkk sg)))))), (ch, .inl (cI, 4, .inl (zch sg (zkk sg)))), (mo, .inr (7, [.ref st, .ref im, .ref iz, .ref go, .int (nI (zN (zpl sg) (zru sg) (zch sg (zkk sg)))), .ref pt, .ref ch, .ref su, .ref kp, .ref hr, .int bf, .int bc, .int bs, .int bt, .int gd])), (go, .inl (cI, 160, .inl gg_2)), (su, .inl (cI, 4, .inl ft_7))] := hD
    have hw_152 : zar ft_7 (zsum (upd (upd (upd (upd fs 0 0) 1 0) 2 0) 3 0) gg_2 (max (zfo (zru sg)) (zT (fun j => gg_2 (4 * j)) (zN (zpl sg) (zru sg) (zch sg (zkk sg))) (zfo (zru sg)) (sg 16))) (max (max (zfo (zru sg)) (zT (fun j => gg_2 (4 * j)) (zN (zpl sg) (zru sg) (zch sg (zkk sg))) (zfo (zru sg)) (sg 16))) (min 40 (zN (zpl sg) (zru sg) (zch sg (zkk sg)))))) 4 := hw_152
    have hP : va_P D vwCl [(st, .inl (cI, 75, .inl sg)), (pt, .inl (cI, 4, .inl (zP (zpl sg) (zru sg) (zch sg (zkk sg)) (zN (zpl sg) (zru sg) (zch sg (zkk sg)))))), (ch, .inl (cI, 4, .inl (zch sg (zkk sg)))), (mo, .inr (7, [.ref st, .ref im, .ref iz, .ref go, .int (nI (zN (zpl sg) (zru sg) (zch sg (zkk sg)))), .ref pt, .ref ch, .ref su, .ref kp, .ref hr, .int bf, .int bc, .int bs, .int bt, .int gd])), (go, .inl (cI, 160, .inl gg_2)), (su, .inl (cI, 4, .inl (zD (zpl sg) (zru sg) (zch sg (zkk sg)))))] H := zk_arr hP (q0 := 5) rfl (fun t ht => (hw_152 t ht).trans (zsumD ht hw_22.1 (zar_4 (g := upd (upd (upd (upd fs 0 0) 1 0) 2 0) 3 0) (F := fun _ => 0) rfl rfl rfl rfl t ht)))
    have hD : va_D A [(st, .inl (cI, 75, .inl sg)), (pt, .inl (cI, 4, .inl (zP (zpl sg) (zru sg) (zch sg (zkk sg)) (zN (zpl sg) (zru sg) (zch sg (zkk sg)))))), (ch, .inl (cI, 4, .inl (zch sg (zkk sg)))), (mo, .inr (7, [.ref st, .ref im, .ref iz, .ref go, .int (nI (zN (zpl sg) (zru sg) (zch sg (zkk sg)))), .ref pt, .ref ch, .ref su, .ref kp, .ref hr, .int bf, .int bc, .int bs, .int bt, .int gd])), (go, .inl (cI, 160, .inl gg_2)), (su, .inl (cI, 4, .inl (zD (zpl sg) (zru sg) (zch sg (zkk sg)))))] := hD.set (p := 5) rfl
    refine lv_aload_n hx hb dX7_part_155 rfl (lv_at hl 0 rfl) ?_
    refine lv_iload_n hx hb dX7_part_156 rfl (lv_at hl 2 rfl) ?_
    refine zk_cVi (rest := []) (wr := [(st, .inl (cI, 75, .inl sg)), (pt, .inl (cI, 4, .inl (zP (zpl sg) (zru sg) (zch sg (zkk sg)) (zN (zpl sg) (zru sg) (zch sg (zkk sg)))))), (ch, .inl (cI, 4, .inl (zch sg (zkk sg)))), (go, .inl (cI, 160, .inl gg_2))]) X hE hA (c_X7_ofSum l D cI cZ ts mo st im iz go pt ch su kp hr (nI (zN (zpl sg) (zru sg) (zch sg (zkk sg)))) bf bc bs bt gd (zD (zpl sg) (zru sg) (zch sg (zkk sg))) p1 (zD_0p _ _ _)) (cwV 1 hts gX7_part_X7_ofSum rfl rfl rfl hdX7_ofSum ⟨Nat.le_of_ble_eq_true rfl, Nat.le_of_ble_eq_true rfl⟩) dX7_part_157 hP hD hS [3, 5] [0, 1, 2, 4] ⟨rfl, rfl, trivial⟩ ⟨rfl, rfl, rfl, rfl, trivial⟩ (by decide +kernel) (by decide +kernel) (by decide +kernel) 7 rfl rfl rfl hl rfl (Nat.le_of_ble_eq_true rfl) ⟨Nat.le_of_ble_eq_true rfl, Nat.le_of_ble_eq_true rfl⟩ (fun r_157 _ H locs hw_157 hP hD hS => ?_)
    have hP : va_P D vwCl [(st, .inl (cI, 75, .inl sg)), (pt, .inl (cI, 4, .inl (zP (zpl sg) (zru sg) (zch sg (zkk sg)) (zN (zpl sg) (zru sg) (zch sg (zkk sg)))))), (ch, .inl (cI, 4, .inl (zch sg (zkk sg)))), (go, .inl (cI, 160, .inl gg_2)), (mo, .inr (7, [.ref st, .ref im, .ref iz, .ref go, .int (nI (zN (zpl sg) (zru sg) (zch sg (zkk sg)))), .ref pt, .ref ch, .ref su, .ref kp, .ref hr, .int bf, .int bc, .int bs, .int bt, .int gd])), (su, .inl (cI, 4, .inl (zD (zpl sg) (zru sg) (zch sg (zkk sg)))))] H := hP
    have hD : va_D A [(st, .inl (cI, 75, .inl sg)), (pt, .inl (cI, 4, .inl (zP (zpl sg) (zru sg) (zch sg (zkk sg)) (zN (zpl sg) (zru sg) (zch sg (zkk sg)))))), (ch, .inl (cI, 4, .inl (zch sg (zkk sg)))), (go, .inl (cI, 160, .inl gg_2)), (mo, .inr (7, [.ref st, .ref im, .ref iz, .ref go, .int (nI (zN (zpl sg) (zru sg) (zch sg (zkk sg)))), .ref pt, .ref ch, .ref su, .ref kp, .ref hr, .int bf, .int bc, .int bs, .int bt, .int gd])), (su, .inl (cI, 4, .inl (zD (zpl sg) (zru sg) (zch sg (zkk sg)))))] := hD
    obtain rfl : r_157 = (zl4 p1 (zD (zpl sg) (zru sg) (zch sg (zkk sg)))) := hw_157
    have hq := hret (zl4 p1 (zD (zpl sg) (zru sg) (zch sg (zkk sg)))) (gg_2, zP (zpl sg) (zru sg) (zch sg (zkk sg)) (zN (zpl sg) (zru sg) (zch sg (zkk sg))), zch sg (zkk sg), zD (zpl sg) (zru sg) (zch sg (zkk sg))) H locs 160 ls
    dsimp only at hq
    exact hq (by (try dsimp only); unfold zpart; rw [if_pos hC]; rfl) (zk_subP hP [4, 0, 3, 1, 2, 5] ⟨rfl, rfl, rfl, rfl, rfl, rfl, trivial⟩) (zk_subD hD [4, 0, 3, 1, 2, 5] (by decide +kernel) ⟨rfl, rfl, rfl, rfl, rfl, rfl, trivial⟩) hS dX7_part_160
  · have hl := hl
    refine lv_tableOut (tgt := 161) hx hb dX7_part_30 (by decide) (by decide) ?_
    refine lv_iload_n hx hb dX7_part_161 rfl (lv_at hl 2 rfl) ?_
    refine lv_aload_n hx hb dX7_part_162 rfl (lv_at hl 0 rfl) ?_
    refine zk_get X hE sX7_part_163 hP 4 rfl rfl ?_
    refine lv_iconst (v := 0) hx hb dX7_part_166 (by decide) ?_
    refine zk_ald hx hb hE hP 2 0 rfl rfl (Nat.le_of_ble_eq_true rfl) (Nat.le_of_ble_eq_true rfl) dX7_part_167 ?_
    refine lv_aload_n hx hb dX7_part_168 rfl (lv_at hl 0 rfl) ?_
    refine zk_get X hE sX7_part_169 hP 4 rfl rfl ?_
    refine lv_iconst (v := 1) hx hb dX7_part_172 (by decide) ?_
    refine zk_ald hx hb hE hP 2 1 rfl rfl (Nat.le_of_ble_eq_true rfl) (Nat.le_of_ble_eq_true rfl) dX7_part_173 ?_
    refine lv_aload_n hx hb dX7_part_174 rfl (lv_at hl 0 rfl) ?_
    refine zk_get X hE sX7_part_175 hP 4 rfl rfl ?_
    refine lv_iconst (v := 2) hx hb dX7_part_178 (by decide) ?_
    refine zk_ald hx hb hE hP 2 2 rfl rfl (Nat.le_of_ble_eq_true rfl) (Nat.le_of_ble_eq_true rfl) dX7_part_179 ?_
    refine lv_aload_n hx hb dX7_part_180 rfl (lv_at hl 0 rfl) ?_
    refine zk_get X hE sX7_part_181 hP 4 rfl rfl ?_
    refine lv_iconst (v := 3) hx hb dX7_part_184 (by decide) ?_
    refine zk_ald hx hb hE hP 2 3 rfl rfl (Nat.le_of_ble_eq_true rfl) (Nat.le_of_ble_eq_true rfl) dX7_part_185 ?_
    refine zk_cSi (rest := []) X hE hA (c_X7_ofLiquid l D cI cZ ts p1 ((zP (zpl sg) (zru sg) (zch sg (zkk sg)) (zN (zpl sg) (zru sg) (zch sg (zkk sg)))) 0) ((zP (zpl sg) (zru sg) (zch sg (zkk sg)) (zN (zpl sg) (zru sg) (zch sg (zkk sg)))) 1) ((zP (zpl sg) (zru sg) (zch sg (zkk sg)) (zN (zpl sg) (zru sg) (zch sg (zkk sg)))) 2) ((zP (zpl sg) (zru sg) (zch sg (zkk sg)) (zN (zpl sg) (zru sg) (zch sg (zkk sg)))) 3) hP0) (cwS 5 hts gX7_part_X7_ofLiquid rfl rfl rfl hdX7_ofLiquid ⟨Nat.le_of_ble_eq_true rfl, Nat.le_of_ble_eq_true rfl⟩) dX7_part_186 hP hD hS rfl hl rfl (Nat.le_of_ble_eq_true rfl) ⟨Nat.le_of_ble_eq_true rfl, Nat.le_of_ble_eq_true rfl⟩ (fun r_186 _ H locs hw_186 hP hD hS => ?_)
    obtain rfl : r_186 = (zt p1 ((zP (zpl sg) (zru sg) (zch sg (zkk sg)) (zN (zpl sg) (zru sg) (zch sg (zkk sg)))) 0) ((zP (zpl sg) (zru sg) (zch sg (zkk sg)) (zN (zpl sg) (zru sg) (zch sg (zkk sg)))) 1) ((zP (zpl sg) (zru sg) (zch sg (zkk sg)) (zN (zpl sg) (zru sg) (zch sg (zkk sg)))) 2) ((zP (zpl sg) (zru sg) (zch sg (zkk sg)) (zN (zpl sg) (zru sg) (zch sg (zkk sg)))) 3)) := hw_186
    have hq := hret (zt p1 ((zP (zpl sg) (zru sg) (zch sg (zkk sg)) (zN (zpl sg) (zru sg) (zch sg (zkk sg)))) 0) ((zP (zpl sg) (zru sg) (zch sg (zkk sg)) (zN (zpl sg) (zru sg) (zch sg (zkk sg)))) 1) ((zP (zpl sg) (zru sg) (zch sg (zkk sg)) (zN (zpl sg) (zru sg) (zch sg (zkk sg)))) 2) ((zP (zpl sg) (zru sg) (zch sg (zkk sg)) (zN (zpl sg) (zru sg) (zch sg (zkk sg)))) 3)) (gg_2, zP (zpl sg) (zru sg) (zch sg (zkk sg)) (zN (zpl sg) (zru sg) (zch sg (zkk sg))), zch sg (zkk sg), upd (upd (upd (upd fs 0 0) 1 0) 2 0) 3 0) H locs 189 ls
    dsimp only at hq
    exact hq (by (try dsimp only); unfold zpart; rw [if_pos hC]; rfl) (zk_subP hP [4, 0, 1, 2, 3, 5] ⟨rfl, rfl, rfl, rfl, rfl, rfl, trivial⟩) (zk_subD hD [4, 0, 1, 2, 3, 5] (by decide +kernel) ⟨rfl, rfl, rfl, rfl, rfl, rfl, trivial⟩) hS dX7_part_189
set_option maxHeartbeats 4000000 in
set_option maxRecDepth 100000 in
theorem c_X7_part_n (l : Launch) (D : va_G) (cI cZ : ClassId) (ts : Nat → Nat) (mo : Nat) (st : Nat) (im : Nat) (iz : Nat) (go : Nat) (pt : Nat) (ch : Nat) (su : Nat) (kp : Nat) (hr : Nat) (li : Int32) (bf : Int32) (bc : Int32) (bs : Int32) (bt : Int32) (gd : Int32) (p0 : Int32) (p1 : Int32) (hC : ¬ ((0 ≤ p0 ∧ p0 ≤ 4) ∧ 0 ≤ p1 ∧ p1 ≤ 5)) : zk_Mi l yX7_part wsX7_part ({ frames := 1, cells := 0, slots := 0, locals := 22 } : Room) D cI cZ ts [.ref mo, .int p0, .int p1] [(mo, .inr (7, [.ref st, .ref im, .ref iz, .ref go, .int li, .ref pt, .ref ch, .ref su, .ref kp, .ref hr, .int bf, .int bc, .int bs, .int bt, .int gd]))] (fun (r : Int32) (_ : Unit) => r = (-2)) (fun (_ : Unit) => [(mo, .inr (7, [.ref st, .ref im, .ref iz, .ref go, .int li, .ref pt, .ref ch, .ref su, .ref kp, .ref hr, .int bf, .int bc, .int bs, .int bt, .int gd]))]) 0 0 := by
  refine zk_Mi.of (cc := cX7_part) (maxL := 3) RX7 (by decide) rfl (Nat.le_of_ble_eq_true rfl) rfl ?_
  intro p e s m below meth c A Q H locs ls X hE hA hP hD hS hret hl
  obtain ⟨hx, hb, hml, hown, hts⟩ := id X
  have hl : lv_has ls 3 [(0, .ref mo), (1, .int p0), (2, .int p1)] := hl
  refine lv_iload_n hx hb dX7_part_0 rfl (lv_at hl 1 rfl) ?_
  refine lv_iconst (v := 0) hx hb dX7_part_1 (by decide) ?_
  refine lv_iconst (v := 4) hx hb dX7_part_2 (by decide) ?_
  refine zk_cSi (rest := []) X hE hA (c_X7_in l D cI cZ ts p0 0 4) (cwS 3 hts gX7_part_X7_in rfl rfl rfl hdX7_in ⟨Nat.le_of_ble_eq_true rfl, Nat.le_of_ble_eq_true rfl⟩) dX7_part_3 hP hD hS rfl hl rfl (Nat.le_of_ble_eq_true rfl) ⟨Nat.le_of_ble_eq_true rfl, Nat.le_of_ble_eq_true rfl⟩ (fun r_3 _ H locs hw_3 hP hD hS => ?_)
  obtain rfl : r_3 = (if 0 ≤ p0 ∧ p0 ≤ 4 then 1 else 0) := hw_3
  refine lv_if_eq (tgt := 18) hx hb dX7_part_6 (by decide) (fun c_6 => ?_) (fun c_6 => ?_)
  · have c_6 : ¬ (0 ≤ p0 ∧ p0 ≤ 4) := zk_ite0 c_6
    refine lv_bipush (v := (-2)) hx hb dX7_part_18 (by decide) ?_
    exact hret (-2) () H locs 20 ls rfl hP hD hS dX7_part_20
  · have c_6 : 0 ≤ p0 ∧ p0 ≤ 4 := zk_ite1 c_6
    refine lv_iload_n hx hb dX7_part_9 rfl (lv_at hl 2 rfl) ?_
    refine lv_iconst (v := 0) hx hb dX7_part_10 (by decide) ?_
    refine lv_iconst (v := 5) hx hb dX7_part_11 (by decide) ?_
    refine zk_cSi (rest := []) X hE hA (c_X7_in l D cI cZ ts p1 0 5) (cwS 3 hts gX7_part_X7_in rfl rfl rfl hdX7_in ⟨Nat.le_of_ble_eq_true rfl, Nat.le_of_ble_eq_true rfl⟩) dX7_part_12 hP hD hS rfl hl rfl (Nat.le_of_ble_eq_true rfl) ⟨Nat.le_of_ble_eq_true rfl, Nat.le_of_ble_eq_true rfl⟩ (fun r_12 _ H locs hw_12 hP hD hS => ?_)
    obtain rfl : r_12 = (if 0 ≤ p1 ∧ p1 ≤ 5 then 1 else 0) := hw_12
    refine lv_if_ne (tgt := 21) hx hb dX7_part_15 (by decide) (fun c_15 => absurd ⟨c_6, zk_ite1 c_15⟩ hC) (fun c_15 => ?_)
    have c_15 : ¬ (0 ≤ p1 ∧ p1 ≤ 5) := zk_ite0 c_15
    refine lv_bipush (v := (-2)) hx hb dX7_part_18 (by decide) ?_
    exact hret (-2) () H locs 20 ls rfl hP hD hS dX7_part_20
set_option maxHeartbeats 4000000 in
set_option maxRecDepth 100000 in
theorem c_X7_isPage (l : Launch) (D : va_G) (cI cZ : ClassId) (ts : Nat → Nat) (mo : Nat) (st : Nat) (im : Nat) (iz : Nat) (go : Nat) (pt : Nat) (ch : Nat) (su : Nat) (kp : Nat) (hr : Nat) (li : Int32) (bf : Int32) (bc : Int32) (bs : Int32) (bt : Int32) (gd : Int32) (sg : Nat → Int32) (p0 : Int32)  : zk_Mi l yX7_isPage wsX7_isPage ({ frames := 1, cells := 0, slots := 0, locals := 22 } : Room) D cI cZ ts [.ref mo, .int p0] [(mo, .inr (7, [.ref st, .ref im, .ref iz, .ref go, .int li, .ref pt, .ref ch, .ref su, .ref kp, .ref hr, .int bf, .int bc, .int bs, .int bt, .int gd])), (st, .inl (cI, 75, .inl sg))] (fun (r : Int32) (_ : Unit) => r = (if 0 ≤ p0 ∧ p0 ≤ sg 26 - 1 then 1 else 0)) (fun (_ : Unit) => [(mo, .inr (7, [.ref st, .ref im, .ref iz, .ref go, .int li, .ref pt, .ref ch, .ref su, .ref kp, .ref hr, .int bf, .int bc, .int bs, .int bt, .int gd])), (st, .inl (cI, 75, .inl sg))]) 0 0 := by
  refine zk_Mi.ofZ (cc := cX7_isPage) (maxL := 2) RX7 (by decide) rfl (Nat.le_of_ble_eq_true rfl) rfl ?_
  intro p e s m below meth c A Q H locs ls X hE hA hP hD hS hret hl
  obtain ⟨hx, hb, hml, hown, hts⟩ := id X
  have hl : lv_has ls 2 [(0, .ref mo), (1, .int p0)] := hl
  refine lv_iload_n hx hb dX7_isPage_0 rfl (lv_at hl 1 rfl) ?_
  refine lv_iconst (v := 0) hx hb dX7_isPage_1 (by decide) ?_
  refine lv_aload_n hx hb dX7_isPage_2 rfl (lv_at hl 0 rfl) ?_
  refine zk_get X hE sX7_isPage_3 hP 0 rfl rfl ?_
  refine lv_bipush (v := 26) hx hb dX7_isPage_6 (by decide) ?_
  refine zk_ald hx hb hE hP 1 26 rfl rfl (Nat.le_of_ble_eq_true rfl) (Nat.le_of_ble_eq_true rfl) dX7_isPage_8 ?_
  refine lv_iconst (v := 1) hx hb dX7_isPage_9 (by decide) ?_
  refine lv_isub hx hb dX7_isPage_10 ?_
  refine zk_cSi (rest := []) X hE hA (c_X7_in l D cI cZ ts p0 0 ((sg 26) - 1)) (cwS 3 hts gX7_isPage_X7_in rfl rfl rfl hdX7_in ⟨Nat.le_of_ble_eq_true rfl, Nat.le_of_ble_eq_true rfl⟩) dX7_isPage_11 hP hD hS rfl hl rfl (Nat.le_of_ble_eq_true rfl) ⟨Nat.le_of_ble_eq_true rfl, Nat.le_of_ble_eq_true rfl⟩ (fun r_11 _ H locs hw_11 hP hD hS => ?_)
  obtain rfl : r_11 = (if 0 ≤ p0 ∧ p0 ≤ ((sg 26) - 1) then 1 else 0) := hw_11
  exact hret (if 0 ≤ p0 ∧ p0 ≤ ((sg 26) - 1) then 1 else 0) () H locs 14 ls (by by_cases q : 0 ≤ p0 ∧ p0 ≤ sg 26 - 1; (rw [if_pos q]; rfl); (rw [if_neg q]; rfl)) rfl hP hD hS dX7_isPage_14
set_option maxHeartbeats 4000000 in
set_option maxRecDepth 100000 in
theorem c_X7_page (l : Launch) (D : va_G) (cI cZ : ClassId) (ts : Nat → Nat) (mo : Nat) (st : Nat) (im : Nat) (iz : Nat) (go : Nat) (pt : Nat) (ch : Nat) (su : Nat) (kp : Nat) (hr : Nat) (li : Int32) (bf : Int32) (bc : Int32) (bs : Int32) (bt : Int32) (gd : Int32) (sg : Nat → Int32) (bk : Nat) (p0 : Int32) (p1 : Int32) (hbk : bk ≤ 12) (hb26 : sg 26 = nI bk) (hpp : ∀ j9, j9 < bk → ¬ sg (27 + 4 * j9) < 0) : zk_Mi l yX7_page wsX7_page ({ frames := 3, cells := 0, slots := 0, locals := 67 } : Room) D cI cZ ts [.ref mo, .int p0, .int p1] [(mo, .inr (7, [.ref st, .ref im, .ref iz, .ref go, .int li, .ref pt, .ref ch, .ref su, .ref kp, .ref hr, .int bf, .int bc, .int bs, .int bt, .int gd])), (st, .inl (cI, 75, .inl sg))] (fun (r : Int32) (_ : Unit) => r = (zpage bk (zpg sg 0) (zpg sg 1) (zpg sg 2) (zpg sg 3) p0 p1)) (fun (_ : Unit) => [(mo, .inr (7, [.ref st, .ref im, .ref iz, .ref go, .int li, .ref pt, .ref ch, .ref su, .ref kp, .ref hr, .int bf, .int bc, .int bs, .int bt, .int gd])), (st, .inl (cI, 75, .inl sg))]) 0 0 := by
  refine zk_Mi.of (cc := cX7_page) (maxL := 3) RX7 (by decide) rfl (Nat.le_of_ble_eq_true rfl) rfl ?_
  intro p e s m below meth c A Q H locs ls X hE hA hP hD hS hret hl
  obtain ⟨hx, hb, hml, hown, hts⟩ := id X
  have hl : lv_has ls 3 [(0, .ref mo), (1, .int p0), (2, .int p1)] := hl
  refine lv_aload_n hx hb dX7_page_0 rfl (lv_at hl 0 rfl) ?_
  refine lv_iload_n hx hb dX7_page_1 rfl (lv_at hl 1 rfl) ?_
  refine zk_cVi (rest := []) (wr := []) X hE hA (c_X7_isPage l D cI cZ ts mo st im iz go pt ch su kp hr li bf bc bs bt gd sg p0) (cwV 1 hts gX7_page_X7_isPage rfl rfl rfl hdX7_isPage ⟨Nat.le_of_ble_eq_true rfl, Nat.le_of_ble_eq_true rfl⟩) dX7_page_2 hP hD hS [0, 1] [] ⟨rfl, rfl, trivial⟩ trivial (by decide +kernel) (by decide +kernel) (by decide +kernel) 7 rfl rfl rfl hl rfl (Nat.le_of_ble_eq_true rfl) ⟨Nat.le_of_ble_eq_true rfl, Nat.le_of_ble_eq_true rfl⟩ (fun r_2 _ H locs hw_2 hP hD hS => ?_)
  have hP : va_P D vwCl [(mo, .inr (7, [.ref st, .ref im, .ref iz, .ref go, .int li, .ref pt, .ref ch, .ref su, .ref kp, .ref hr, .int bf, .int bc, .int bs, .int bt, .int gd])), (st, .inl (cI, 75, .inl sg))] H := hP
  have hD : va_D A [(mo, .inr (7, [.ref st, .ref im, .ref iz, .ref go, .int li, .ref pt, .ref ch, .ref su, .ref kp, .ref hr, .int bf, .int bc, .int bs, .int bt, .int gd])), (st, .inl (cI, 75, .inl sg))] := hD
  obtain rfl : r_2 = (if 0 ≤ p0 ∧ p0 ≤ sg 26 - 1 then 1 else 0) := hw_2
  refine lv_if_ne (tgt := 10) hx hb dX7_page_5 (by decide) (fun c_5 => ?_) (fun c_5 => ?_)
  · have c_5 : 0 ≤ p0 ∧ p0 ≤ sg 26 - 1 := zk_ite1 c_5
    rw [hb26] at c_5
    obtain ⟨hi0, hi1⟩ := zpage_ix hbk c_5
    refine lv_iload_n hx hb dX7_page_10 rfl (lv_at hl 2 rfl) ?_
    refine lv_iconst (v := 0) hx hb dX7_page_11 (by decide) ?_
    refine lv_iconst (v := 5) hx hb dX7_page_12 (by decide) ?_
    refine zk_cSi (rest := []) X hE hA (c_X7_in l D cI cZ ts p1 0 5) (cwS 3 hts gX7_page_X7_in rfl rfl rfl hdX7_in ⟨Nat.le_of_ble_eq_true rfl, Nat.le_of_ble_eq_true rfl⟩) dX7_page_13 hP hD hS rfl hl rfl (Nat.le_of_ble_eq_true rfl) ⟨Nat.le_of_ble_eq_true rfl, Nat.le_of_ble_eq_true rfl⟩ (fun r_13 _ H locs hw_13 hP hD hS => ?_)
    obtain rfl : r_13 = (if 0 ≤ p1 ∧ p1 ≤ 5 then 1 else 0) := hw_13
    refine lv_if_eq (tgt := 33) hx hb dX7_page_16 (by decide) (fun c_16 => ?_) (fun c_16 => ?_)
    · have c_16 : ¬ (0 ≤ p1 ∧ p1 ≤ 5) := zk_ite0 c_16
      refine lv_bipush (v := (-2)) hx hb dX7_page_33 (by decide) ?_
      exact hret (-2) () H locs 35 ls (by unfold zpage; rw [if_pos c_5]; first | exact (if_pos c_16).symm | exact (if_neg c_16).symm) hP hD hS dX7_page_35
    · have c_16 : 0 ≤ p1 ∧ p1 ≤ 5 := zk_ite1 c_16
      refine lv_aload_n hx hb dX7_page_19 rfl (lv_at hl 0 rfl) ?_
      refine lv_bipush (v := 27) hx hb dX7_page_20 (by decide) ?_
      refine lv_iconst (v := 4) hx hb dX7_page_22 (by decide) ?_
      refine lv_iload_n hx hb dX7_page_23 rfl (lv_at hl 1 rfl) ?_
      refine zk_top (show (p0 : Int32) = nI p0.toNatClampNeg from hi0) ?_
      refine lv_imul hx hb dX7_page_24 ?_
      refine zk_top (show (4 * (nI p0.toNatClampNeg) : Int32) = nI (4 * p0.toNatClampNeg) from pk_mul 4 p0.toNatClampNeg) ?_
      refine lv_iadd hx hb dX7_page_25 ?_
      refine zk_top (show (27 + (nI (4 * p0.toNatClampNeg)) : Int32) = nI (27 + (4 * p0.toNatClampNeg)) from nI_add 27 (4 * p0.toNatClampNeg)) ?_
      refine lv_iload_n hx hb dX7_page_26 rfl (lv_at hl 2 rfl) ?_
      refine zk_cVi (rest := []) (wr := []) X hE hA (c_X7_ofCell l D cI cZ ts mo st im iz go pt ch su kp hr li bf bc bs bt gd sg (27 + (4 * p0.toNatClampNeg)) p1 (by omega) (hpp _ hi1)) (cwV 2 hts gX7_page_X7_ofCell rfl rfl rfl hdX7_ofCell ⟨Nat.le_of_ble_eq_true rfl, Nat.le_of_ble_eq_true rfl⟩) dX7_page_27 hP hD hS [0, 1] [] ⟨rfl, rfl, trivial⟩ trivial (by decide +kernel) (by decide +kernel) (by decide +kernel) 7 rfl rfl rfl hl rfl (Nat.le_of_ble_eq_true rfl) ⟨Nat.le_of_ble_eq_true rfl, Nat.le_of_ble_eq_true rfl⟩ (fun r_27 _ H locs hw_27 hP hD hS => ?_)
      have hP : va_P D vwCl [(mo, .inr (7, [.ref st, .ref im, .ref iz, .ref go, .int li, .ref pt, .ref ch, .ref su, .ref kp, .ref hr, .int bf, .int bc, .int bs, .int bt, .int gd])), (st, .inl (cI, 75, .inl sg))] H := hP
      have hD : va_D A [(mo, .inr (7, [.ref st, .ref im, .ref iz, .ref go, .int li, .ref pt, .ref ch, .ref su, .ref kp, .ref hr, .int bf, .int bc, .int bs, .int bt, .int gd])), (st, .inl (cI, 75, .inl sg))] := hD
      obtain rfl : r_27 = (zt p1 (sg (27 + (4 * p0.toNatClampNeg))) (sg ((27 + (4 * p0.toNatClampNeg)) + 1)) (sg ((27 + (4 * p0.toNatClampNeg)) + 2)) (sg ((27 + (4 * p0.toNatClampNeg)) + 3))) := hw_27
      refine lv_goto (tgt := 35) hx hb dX7_page_30 (by decide) ?_
      exact hret (zt p1 (sg (27 + (4 * p0.toNatClampNeg))) (sg ((27 + (4 * p0.toNatClampNeg)) + 1)) (sg ((27 + (4 * p0.toNatClampNeg)) + 2)) (sg ((27 + (4 * p0.toNatClampNeg)) + 3))) () H locs 35 ls (by unfold zpage; rw [if_pos c_5]; first | exact (if_pos c_16).symm | exact (if_neg c_16).symm) hP hD hS dX7_page_35
  · have c_5 : ¬ (0 ≤ p0 ∧ p0 ≤ sg 26 - 1) := zk_ite0 c_5
    rw [hb26] at c_5
    refine lv_iconst (v := (-1)) hx hb dX7_page_8 (by decide) ?_
    exact hret (-1) () H locs 9 ls (by unfold zpage; rw [if_neg c_5]) hP hD hS dX7_page_9
set_option maxHeartbeats 4000000 in
set_option maxRecDepth 100000 in
theorem c_X7_weed_y (l : Launch) (D : va_G) (cI cZ : ClassId) (ts : Nat → Nat) (mo : Nat) (st : Nat) (im : Nat) (iz : Nat) (go : Nat) (pt : Nat) (ch : Nat) (su : Nat) (kp : Nat) (hr : Nat) (li : Int32) (bf : Int32) (bc : Int32) (bs : Int32) (bt : Int32) (gd : Int32) (sg : Nat → Int32) (bk : Nat) (p0 : Int32) (hbk : bk ≤ 12) (hb26 : sg 26 = nI bk) (hpp : ∀ j9, j9 < bk → ¬ sg (27 + 4 * j9) < 0) (hC : 0 ≤ p0 ∧ p0 ≤ 1000) : zk_Mi l yX7_weed wsX7_weed ({ frames := 3, cells := 0, slots := 0, locals := 67 } : Room) D cI cZ ts [.ref mo, .int p0] [(mo, .inr (7, [.ref st, .ref im, .ref iz, .ref go, .int li, .ref pt, .ref ch, .ref su, .ref kp, .ref hr, .int bf, .int bc, .int bs, .int bt, .int gd])), (st, .inl (cI, 75, .inl sg))] (fun (r : Int32) (u : (Nat → Int32)) => r = (nI (zc (zab p0 (zpg sg 0) (zpg sg 1)) bk)) ∧ zwi sg u (zab p0 (zpg sg 0) (zpg sg 1)) bk 0) (fun (u : (Nat → Int32)) => [(mo, .inr (7, [.ref st, .ref im, .ref iz, .ref go, .int li, .ref pt, .ref ch, .ref su, .ref kp, .ref hr, .int bf, .int bc, .int bs, .int bt, .int gd])), (st, .inl (cI, 75, .inl u))]) 0 0 := by
  refine zk_Mi.of (cc := cX7_weed) (maxL := 3) RX7 (by decide) rfl (Nat.le_of_ble_eq_true rfl) rfl ?_
  intro p e s m below meth c A Q H locs ls X hE hA hP hD hS hret hl
  obtain ⟨hx, hb, hml, hown, hts⟩ := id X
  have hl : lv_has ls 3 [(0, .ref mo), (1, .int p0)] := hl
  refine lv_iload_n hx hb dX7_weed_0 rfl (lv_at hl 1 rfl) ?_
  refine lv_iconst (v := 0) hx hb dX7_weed_1 (by decide) ?_
  refine lv_sipush (v := 1000) hx hb dX7_weed_2 (by decide) ?_
  refine zk_cSi (rest := []) X hE hA (c_X7_in l D cI cZ ts p0 0 1000) (cwS 3 hts gX7_weed_X7_in rfl rfl rfl hdX7_in ⟨Nat.le_of_ble_eq_true rfl, Nat.le_of_ble_eq_true rfl⟩) dX7_weed_5 hP hD hS rfl hl rfl (Nat.le_of_ble_eq_true rfl) ⟨Nat.le_of_ble_eq_true rfl, Nat.le_of_ble_eq_true rfl⟩ (fun r_5 _ H locs hw_5 hP hD hS => ?_)
  obtain rfl : r_5 = (if 0 ≤ p0 ∧ p0 ≤ 1000 then 1 else 0) := hw_5
  refine lv_if_ne (tgt := 14) hx hb dX7_weed_8 (by decide) (fun c_8 => ?_) (fun c_8 => absurd c_8 (by rw [if_pos hC]; decide))
  have c_8 : 0 ≤ p0 ∧ p0 ≤ 1000 := zk_ite1 c_8
  refine lv_aload_n hx hb dX7_weed_14 rfl (lv_at hl 0 rfl) ?_
  refine zk_get X hE sX7_weed_15 hP 0 rfl rfl ?_
  refine lv_bipush (v := 26) hx hb dX7_weed_18 (by decide) ?_
  refine zk_ald hx hb hE hP 1 26 rfl rfl (Nat.le_of_ble_eq_true rfl) (Nat.le_of_ble_eq_true rfl) dX7_weed_20 ?_
  refine lv_iconst (v := 1) hx hb dX7_weed_21 (by decide) ?_
  refine lv_isub hx hb dX7_weed_22 ?_
  refine zk_top (show ((sg 26) - 1 : Int32) = nI bk - 1 from (by rw [hb26])) ?_
  refine lv_istore_n (lv' := [(2, .int (nI bk - 1)), (0, .ref mo), (1, .int p0)]) hx hb dX7_weed_23 rfl hl (by decide) rfl (fun ls hl => ?_)
  have L_24 : ∀ (n : Nat) (i : Nat) (gs : Nat → Int32) (H : Heap) (locs : List Loc) (ls : Array Slot), (i ≤ bk) → (zwi sg gs (zab p0 (zpg sg 0) (zpg sg 1)) bk i) → i < n → va_P D vwCl [(mo, .inr (7, [.ref st, .ref im, .ref iz, .ref go, .int li, .ref pt, .ref ch, .ref su, .ref kp, .ref hr, .int bf, .int bc, .int bs, .int bt, .int gd])), (st, .inl (cI, 75, .inl gs))] H → va_D A [(mo, .inr (7, [.ref st, .ref im, .ref iz, .ref go, .int li, .ref pt, .ref ch, .ref su, .ref kp, .ref hr, .int bf, .int bc, .int bs, .int bt, .int gd])), (st, .inl (cI, 75, .inl gs))] → va_S A s.heap H locs → lv_has ls 3 [(0, .ref mo), (1, .int p0), (2, .int (nI i - 1))] → W p l e ({ frames := 3, cells := 0, slots := 0, locals := 67 } : Room) s m ([.ref mo, .int p0] : List Value).toArray below meth c H locs 0 0 Q (F0 m 24 ls []) := by
    intro n
    induction n with
    | zero =>
      intro i gs H locs ls hi hw hlt hP hD hS hl
      exact absurd hlt (Nat.not_lt_zero _)
    | succ n ih_24 =>
      intro i gs H locs ls hi hw hlt hP hD hS hl
      refine lv_iload_n hx hb dX7_weed_24 rfl (lv_at hl 2 rfl) ?_
      refine lv_if_lt (tgt := 54) hx hb dX7_weed_25 (by decide) (fun c_25 => ?_) (fun c_25 => ?_)
      · have ei : i = 0 := zn_m1 (by omega) c_25
        subst ei
        refine lv_aload_n hx hb dX7_weed_54 rfl (lv_at hl 0 rfl) ?_
        refine zk_get X hE sX7_weed_55 hP 0 rfl rfl ?_
        refine lv_bipush (v := 26) hx hb dX7_weed_58 (by decide) ?_
        refine zk_ald hx hb hE hP 1 26 rfl rfl (Nat.le_of_ble_eq_true rfl) (Nat.le_of_ble_eq_true rfl) dX7_weed_60 ?_
        have hq := hret (gs 26) gs H locs 61 ls
        exact hq (⟨zwi_n hw, hw⟩) hP hD hS dX7_weed_61
      · have ei := zn_m1' c_25
        obtain ⟨i2, rfl⟩ : ∃ i2, i = i2 + 1 := ⟨i - 1, by omega⟩
        have k0 : gs (27 + 4 * i2) = sg (27 + 4 * i2) := hw.2.1 i2 0 (by omega) (by decide)
        have k1 : gs (27 + 4 * i2 + 1) = sg (27 + 4 * i2 + 1) := hw.2.1 i2 1 (by omega) (by decide)
        have hp9 : ¬ gs (27 + 4 * i2) < 0 := by rw [k0]; exact hpp i2 (by omega)
        refine lv_aload_n hx hb dX7_weed_28 rfl (lv_at hl 0 rfl) ?_
        refine lv_bipush (v := 27) hx hb dX7_weed_29 (by decide) ?_
        refine lv_iconst (v := 4) hx hb dX7_weed_31 (by decide) ?_
        refine lv_iload_n hx hb dX7_weed_32 rfl (lv_at hl 2 rfl) ?_
        refine zk_top (show (nI (i2 + 1) - 1 : Int32) = nI i2 from zn_m2 i2) ?_
        refine lv_imul hx hb dX7_weed_33 ?_
        refine zk_top (show (4 * (nI i2) : Int32) = nI (4 * i2) from pk_mul 4 i2) ?_
        refine lv_iadd hx hb dX7_weed_34 ?_
        refine zk_top (show (27 + (nI (4 * i2)) : Int32) = nI (27 + (4 * i2)) from nI_add 27 (4 * i2)) ?_
        refine lv_iconst (v := 4) hx hb dX7_weed_35 (by decide) ?_
        refine zk_cVi (rest := []) (wr := []) X hE hA (c_X7_ofCell l D cI cZ ts mo st im iz go pt ch su kp hr li bf bc bs bt gd gs (27 + (4 * i2)) 4 (by omega) hp9) (cwV 2 hts gX7_weed_X7_ofCell rfl rfl rfl hdX7_ofCell ⟨Nat.le_of_ble_eq_true rfl, Nat.le_of_ble_eq_true rfl⟩) dX7_weed_36 hP hD hS [0, 1] [] ⟨rfl, rfl, trivial⟩ trivial (by decide +kernel) (by decide +kernel) (by decide +kernel) 7 rfl rfl rfl hl rfl (Nat.le_of_ble_eq_true rfl) ⟨Nat.le_of_ble_eq_true rfl, Nat.le_of_ble_eq_true rfl⟩ (fun r_36 _ H locs hw_36 hP hD hS => ?_)
        have hP : va_P D vwCl [(mo, .inr (7, [.ref st, .ref im, .ref iz, .ref go, .int li, .ref pt, .ref ch, .ref su, .ref kp, .ref hr, .int bf, .int bc, .int bs, .int bt, .int gd])), (st, .inl (cI, 75, .inl gs))] H := hP
        have hD : va_D A [(mo, .inr (7, [.ref st, .ref im, .ref iz, .ref go, .int li, .ref pt, .ref ch, .ref su, .ref kp, .ref hr, .int bf, .int bc, .int bs, .int bt, .int gd])), (st, .inl (cI, 75, .inl gs))] := hD
        obtain rfl : r_36 = (zt 4 (gs (27 + (4 * i2))) (gs ((27 + (4 * i2)) + 1)) (gs ((27 + (4 * i2)) + 2)) (gs ((27 + (4 * i2)) + 3))) := hw_36
        refine zk_top (show (zt 4 (gs (27 + (4 * i2))) (gs ((27 + (4 * i2)) + 1)) (gs ((27 + (4 * i2)) + 2)) (gs ((27 + (4 * i2)) + 3)) : Int32) = zq (zpg sg 1 i2) (zpg sg 0 i2) from (by rw [zt4, k0, k1]; rfl)) ?_
        refine lv_iload_n hx hb dX7_weed_39 rfl (lv_at hl 1 rfl) ?_
        refine lv_icmp_ge (tgt := 48) hx hb dX7_weed_40 (by decide) (fun c_40 => ?_) (fun c_40 => ?_)
        · refine lv_iinc (v := nI i2 - 1) (lv' := [(2, .int (nI i2 - 1)), (0, .ref mo), (1, .int p0)]) hx hb dX7_weed_48 hl (k := 2) rfl (zn_m3 i2) (by decide) rfl (fun ls hl => ?_)
          refine lv_goto (tgt := 24) hx hb dX7_weed_51 (by decide) ?_
          exact ih_24 i2 gs H locs ls (by omega) (by first | exact zwi_t (zab_y c_40) (by omega) hw | exact zwi_f (zab_n c_40) (by omega) hbk hw) (by omega) hP hD hS (lv_sub hl [1, 2, 0] rfl)
        · refine lv_aload_n hx hb dX7_weed_43 rfl (lv_at hl 0 rfl) ?_
          refine lv_iload_n hx hb dX7_weed_44 rfl (lv_at hl 2 rfl) ?_
          refine zk_top (show (nI (i2 + 1) - 1 : Int32) = nI i2 from zn_m2 i2) ?_
          refine zk_cVv (rest := []) (wr := []) X hE hA (c_X7_dropPage l D cI cZ ts mo st im iz go pt ch su kp hr li bf bc bs bt gd gs i2 (by omega)) (cwV 1 hts gX7_weed_X7_dropPage rfl rfl rfl hdX7_dropPage ⟨Nat.le_of_ble_eq_true rfl, Nat.le_of_ble_eq_true rfl⟩) dX7_weed_45 hP hD hS [0, 1] [] ⟨rfl, rfl, trivial⟩ trivial (by decide +kernel) (by decide +kernel) (by decide +kernel) 7 rfl rfl rfl hl rfl (Nat.le_of_ble_eq_true rfl) ⟨Nat.le_of_ble_eq_true rfl, Nat.le_of_ble_eq_true rfl⟩ (fun u_45 H locs hw_45 hP hD hS => ?_)
          obtain ⟨ft_1, rfl⟩ : ∃ z, z = u_45 := ⟨_, rfl⟩
          have hP : va_P D vwCl [(mo, .inr (7, [.ref st, .ref im, .ref iz, .ref go, .int li, .ref pt, .ref ch, .ref su, .ref kp, .ref hr, .int bf, .int bc, .int bs, .int bt, .int gd])), (st, .inl (cI, 75, .inl ft_1))] H := hP
          have hD : va_D A [(mo, .inr (7, [.ref st, .ref im, .ref iz, .ref go, .int li, .ref pt, .ref ch, .ref su, .ref kp, .ref hr, .int bf, .int bc, .int bs, .int bt, .int gd])), (st, .inl (cI, 75, .inl ft_1))] := hD
          obtain rfl : ft_1 = (upd (zdp gs (27 + 4 * i2) 71) 26 (gs 26 - 1)) := hw_45
          refine lv_iinc (v := nI i2 - 1) (lv' := [(2, .int (nI i2 - 1)), (0, .ref mo), (1, .int p0)]) hx hb dX7_weed_48 hl (k := 2) rfl (zn_m3 i2) (by decide) rfl (fun ls hl => ?_)
          refine lv_goto (tgt := 24) hx hb dX7_weed_51 (by decide) ?_
          exact ih_24 i2 (upd (zdp gs (27 + 4 * i2) 71) 26 (gs 26 - 1)) H locs ls (by omega) (by first | exact zwi_t (zab_y c_40) (by omega) hw | exact zwi_f (zab_n c_40) (by omega) hbk hw) (by omega) hP hD hS (lv_sub hl [1, 2, 0] rfl)
  exact L_24 _ bk sg H locs ls (Nat.le_refl _) (zwi_0 hb26) (Nat.lt_succ_self _) hP hD hS (lv_sub hl [1, 2, 0] rfl)
set_option maxHeartbeats 4000000 in
set_option maxRecDepth 100000 in
theorem c_X7_weed_n (l : Launch) (D : va_G) (cI cZ : ClassId) (ts : Nat → Nat) (mo : Nat) (st : Nat) (im : Nat) (iz : Nat) (go : Nat) (pt : Nat) (ch : Nat) (su : Nat) (kp : Nat) (hr : Nat) (li : Int32) (bf : Int32) (bc : Int32) (bs : Int32) (bt : Int32) (gd : Int32) (p0 : Int32) (hC : ¬ (0 ≤ p0 ∧ p0 ≤ 1000)) : zk_Mi l yX7_weed wsX7_weed ({ frames := 1, cells := 0, slots := 0, locals := 22 } : Room) D cI cZ ts [.ref mo, .int p0] [(mo, .inr (7, [.ref st, .ref im, .ref iz, .ref go, .int li, .ref pt, .ref ch, .ref su, .ref kp, .ref hr, .int bf, .int bc, .int bs, .int bt, .int gd]))] (fun (r : Int32) (_ : Unit) => r = (-2)) (fun (_ : Unit) => [(mo, .inr (7, [.ref st, .ref im, .ref iz, .ref go, .int li, .ref pt, .ref ch, .ref su, .ref kp, .ref hr, .int bf, .int bc, .int bs, .int bt, .int gd]))]) 0 0 := by
  refine zk_Mi.of (cc := cX7_weed) (maxL := 3) RX7 (by decide) rfl (Nat.le_of_ble_eq_true rfl) rfl ?_
  intro p e s m below meth c A Q H locs ls X hE hA hP hD hS hret hl
  obtain ⟨hx, hb, hml, hown, hts⟩ := id X
  have hl : lv_has ls 3 [(0, .ref mo), (1, .int p0)] := hl
  refine lv_iload_n hx hb dX7_weed_0 rfl (lv_at hl 1 rfl) ?_
  refine lv_iconst (v := 0) hx hb dX7_weed_1 (by decide) ?_
  refine lv_sipush (v := 1000) hx hb dX7_weed_2 (by decide) ?_
  refine zk_cSi (rest := []) X hE hA (c_X7_in l D cI cZ ts p0 0 1000) (cwS 3 hts gX7_weed_X7_in rfl rfl rfl hdX7_in ⟨Nat.le_of_ble_eq_true rfl, Nat.le_of_ble_eq_true rfl⟩) dX7_weed_5 hP hD hS rfl hl rfl (Nat.le_of_ble_eq_true rfl) ⟨Nat.le_of_ble_eq_true rfl, Nat.le_of_ble_eq_true rfl⟩ (fun r_5 _ H locs hw_5 hP hD hS => ?_)
  obtain rfl : r_5 = (if 0 ≤ p0 ∧ p0 ≤ 1000 then 1 else 0) := hw_5
  refine lv_if_ne (tgt := 14) hx hb dX7_weed_8 (by decide) (fun c_8 => absurd c_8 (fun q => q (if_neg hC))) (fun c_8 => ?_)
  have c_8 : ¬ (0 ≤ p0 ∧ p0 ≤ 1000) := zk_ite0 c_8
  refine lv_bipush (v := (-2)) hx hb dX7_weed_11 (by decide) ?_
  exact hret (-2) () H locs 13 ls rfl hP hD hS dX7_weed_13
set_option maxHeartbeats 4000000 in
set_option maxRecDepth 100000 in
theorem c_X7_image_y (l : Launch) (D : va_G) (cI cZ : ClassId) (ts : Nat → Nat) (mo : Nat) (st : Nat) (im : Nat) (iz : Nat) (go : Nat) (pt : Nat) (ch : Nat) (su : Nat) (kp : Nat) (hr : Nat) (li : Int32) (bf : Int32) (bc : Int32) (bs : Int32) (bt : Int32) (gd : Int32) (sg : Nat → Int32) (fi : Nat → Int32) (fz : Nat → Int32) (kk : Nat) (hk : kk ≤ 1) : zk_Mi l yX7_image wsX7_image ({ frames := 1, cells := 0, slots := 0, locals := 22 } : Room) D cI cZ ts [.ref mo, .int (nI kk)] [(mo, .inr (7, [.ref st, .ref im, .ref iz, .ref go, .int li, .ref pt, .ref ch, .ref su, .ref kp, .ref hr, .int bf, .int bc, .int bs, .int bt, .int gd])), (st, .inl (cI, 75, .inl sg)), (im, .inl (cI, 150, .inl fi)), (iz, .inl (cZ, 2, .inl fz))] (fun (r : Int32) (u : (Nat → Int32)) => r = 1 ∧ zcpi fi sg u kk 75) (fun (u : (Nat → Int32)) => [(mo, .inr (7, [.ref st, .ref im, .ref iz, .ref go, .int li, .ref pt, .ref ch, .ref su, .ref kp, .ref hr, .int bf, .int bc, .int bs, .int bt, .int gd])), (st, .inl (cI, 75, .inl sg)), (im, .inl (cI, 150, .inl u)), (iz, .inl (cZ, 2, .inl (upd fz kk 1)))]) 0 0 := by
  refine zk_Mi.of (cc := cX7_image) (maxL := 3) RX7 (by decide) rfl (Nat.le_of_ble_eq_true rfl) rfl ?_
  intro p e s m below meth c A Q H locs ls X hE hA hP hD hS hret hl
  obtain ⟨hx, hb, hml, hown, hts⟩ := id X
  have hl : lv_has ls 3 [(0, .ref mo), (1, .int (nI kk))] := hl
  refine lv_iload_n hx hb dX7_image_0 rfl (lv_at hl 1 rfl) ?_
  refine lv_iconst (v := 0) hx hb dX7_image_1 (by decide) ?_
  refine lv_iconst (v := 1) hx hb dX7_image_2 (by decide) ?_
  refine zk_cSi (rest := []) X hE hA (c_X7_in l D cI cZ ts (nI kk) 0 1) (cwS 3 hts gX7_image_X7_in rfl rfl rfl hdX7_in ⟨Nat.le_of_ble_eq_true rfl, Nat.le_of_ble_eq_true rfl⟩) dX7_image_3 hP hD hS rfl hl rfl (Nat.le_of_ble_eq_true rfl) ⟨Nat.le_of_ble_eq_true rfl, Nat.le_of_ble_eq_true rfl⟩ (fun r_3 _ H locs hw_3 hP hD hS => ?_)
  obtain rfl : r_3 = (if 0 ≤ (nI kk) ∧ (nI kk) ≤ 1 then 1 else 0) := hw_3
  refine lv_if_ne (tgt := 12) hx hb dX7_image_6 (by decide) (fun c_6 => ?_) (fun c_6 => absurd c_6 (by rw [if_pos (zin01 hk)]; decide))
  have c_6 : 0 ≤ (nI kk) ∧ (nI kk) ≤ 1 := zk_ite1 c_6
  refine lv_iconst (v := 0) hx hb dX7_image_12 (by decide) ?_
  refine lv_istore_n (lv' := [(2, .int 0), (0, .ref mo), (1, .int (nI kk))]) hx hb dX7_image_13 rfl hl (by decide) rfl (fun ls hl => ?_)
  have L_14 : ∀ (n : Nat) (i : Nat) (gi : Nat → Int32) (H : Heap) (locs : List Loc) (ls : Array Slot), (i ≤ 75) → (zcpi fi sg gi kk i) → 75 - i < n → va_P D vwCl [(mo, .inr (7, [.ref st, .ref im, .ref iz, .ref go, .int li, .ref pt, .ref ch, .ref su, .ref kp, .ref hr, .int bf, .int bc, .int bs, .int bt, .int gd])), (st, .inl (cI, 75, .inl sg)), (im, .inl (cI, 150, .inl gi)), (iz, .inl (cZ, 2, .inl fz))] H → va_D A [(mo, .inr (7, [.ref st, .ref im, .ref iz, .ref go, .int li, .ref pt, .ref ch, .ref su, .ref kp, .ref hr, .int bf, .int bc, .int bs, .int bt, .int gd])), (st, .inl (cI, 75, .inl sg)), (im, .inl (cI, 150, .inl gi)), (iz, .inl (cZ, 2, .inl fz))] → va_S A s.heap H locs → lv_has ls 3 [(0, .ref mo), (1, .int (nI kk)), (2, .int (nI i))] → W p l e ({ frames := 1, cells := 0, slots := 0, locals := 22 } : Room) s m ([.ref mo, .int (nI kk)] : List Value).toArray below meth c H locs 0 0 Q (F0 m 14 ls []) := by
    intro n
    induction n with
    | zero =>
      intro i gi H locs ls hi hc hlt hP hD hS hl
      exact absurd hlt (Nat.not_lt_zero _)
    | succ n ih_14 =>
      intro i gi H locs ls hi hc hlt hP hD hS hl
      refine lv_iload_n hx hb dX7_image_14 rfl (lv_at hl 2 rfl) ?_
      refine lv_bipush (v := 75) hx hb dX7_image_15 (by decide) ?_
      refine lv_icmp_ge (tgt := 43) hx hb dX7_image_17 (by decide) (fun c_17 => ?_) (fun c_17 => ?_)
      · have hge := zn_le (a := 75) c_17 (by decide) (by omega)
        have ei : 75 = i := by omega
        subst ei
        refine lv_aload_n hx hb dX7_image_43 rfl (lv_at hl 0 rfl) ?_
        refine zk_get X hE sX7_image_44 hP 0 rfl rfl ?_
        refine lv_iload_n hx hb dX7_image_47 rfl (lv_at hl 1 rfl) ?_
        refine lv_iconst (v := 1) hx hb dX7_image_48 (by decide) ?_
        refine zk_zst (ws' := [(mo, .inr (7, [.ref st, .ref im, .ref iz, .ref go, .int li, .ref pt, .ref ch, .ref su, .ref kp, .ref hr, .int bf, .int bc, .int bs, .int bt, .int gd])), (st, .inl (cI, 75, .inl sg)), (im, .inl (cI, 150, .inl gi)), (iz, .inl (cZ, 2, .inl (upd fz kk 1)))]) hx hb hE hP hD hS 3 kk rfl rfl (by omega) (Nat.le_of_ble_eq_true rfl) (by decide) dX7_image_49 rfl (fun H locs hP hD hS => ?_)
        refine lv_iconst (v := 1) hx hb dX7_image_50 (by decide) ?_
        have hq := hret 1 gi H locs 51 ls
        exact hq (⟨rfl, hc⟩) hP hD hS dX7_image_51
      · have hik := zn_nle (a := 75) c_17 (by omega)
        refine lv_aload_n hx hb dX7_image_20 rfl (lv_at hl 0 rfl) ?_
        refine zk_get X hE sX7_image_21 hP 0 rfl rfl ?_
        refine lv_bipush (v := 75) hx hb dX7_image_24 (by decide) ?_
        refine lv_iload_n hx hb dX7_image_26 rfl (lv_at hl 1 rfl) ?_
        refine lv_imul hx hb dX7_image_27 ?_
        refine zk_top (show (75 * (nI kk) : Int32) = nI (75 * kk) from pk_mul 75 kk) ?_
        refine lv_iload_n hx hb dX7_image_28 rfl (lv_at hl 2 rfl) ?_
        refine lv_iadd hx hb dX7_image_29 ?_
        refine zk_top (show ((nI (75 * kk)) + (nI i) : Int32) = nI ((75 * kk) + i) from nI_add (75 * kk) i) ?_
        refine lv_aload_n hx hb dX7_image_30 rfl (lv_at hl 0 rfl) ?_
        refine zk_get X hE sX7_image_31 hP 0 rfl rfl ?_
        refine lv_iload_n hx hb dX7_image_34 rfl (lv_at hl 2 rfl) ?_
        refine zk_ald hx hb hE hP 1 i rfl rfl (by omega) (Nat.le_of_ble_eq_true rfl) dX7_image_35 ?_
        refine zk_ast (ws' := [(mo, .inr (7, [.ref st, .ref im, .ref iz, .ref go, .int li, .ref pt, .ref ch, .ref su, .ref kp, .ref hr, .int bf, .int bc, .int bs, .int bt, .int gd])), (st, .inl (cI, 75, .inl sg)), (im, .inl (cI, 150, .inl (upd gi ((75 * kk) + i) (sg i)))), (iz, .inl (cZ, 2, .inl fz))]) hx hb hE hP hD hS 2 ((75 * kk) + i) rfl rfl (by omega) (Nat.le_of_ble_eq_true rfl) dX7_image_36 rfl (fun H locs hP hD hS => ?_)
        refine lv_iinc (v := nI (i + 1)) (lv' := [(2, .int (nI (i + 1))), (0, .ref mo), (1, .int (nI kk))]) hx hb dX7_image_37 hl (k := 2) rfl (zk_inc i) (by decide) rfl (fun ls hl => ?_)
        refine lv_goto (tgt := 14) hx hb dX7_image_40 (by decide) ?_
        exact ih_14 (i + 1) (upd gi ((75 * kk) + i) (sg i)) H locs ls (by omega) (zcpi_s hc) (by omega) hP hD hS (lv_sub hl [1, 2, 0] rfl)
  exact L_14 _ 0 fi H locs ls (Nat.zero_le _) (zcpi_0 _ _ _) (Nat.lt_succ_self _) hP hD hS (lv_sub hl [1, 2, 0] rfl)
set_option maxHeartbeats 4000000 in
set_option maxRecDepth 100000 in
theorem c_X7_restore_y (l : Launch) (D : va_G) (cI cZ : ClassId) (ts : Nat → Nat) (mo : Nat) (st : Nat) (im : Nat) (iz : Nat) (go : Nat) (pt : Nat) (ch : Nat) (su : Nat) (kp : Nat) (hr : Nat) (li : Int32) (bf : Int32) (bc : Int32) (bs : Int32) (bt : Int32) (gd : Int32) (sg : Nat → Int32) (fi : Nat → Int32) (fz : Nat → Int32) (kk : Nat) (hk : kk ≤ 1) (hz : ¬ fz kk = 0) : zk_Mi l yX7_restore wsX7_restore ({ frames := 1, cells := 0, slots := 0, locals := 22 } : Room) D cI cZ ts [.ref mo, .int (nI kk)] [(mo, .inr (7, [.ref st, .ref im, .ref iz, .ref go, .int li, .ref pt, .ref ch, .ref su, .ref kp, .ref hr, .int bf, .int bc, .int bs, .int bt, .int gd])), (st, .inl (cI, 75, .inl sg)), (im, .inl (cI, 150, .inl fi)), (iz, .inl (cZ, 2, .inl fz))] (fun (r : Int32) (u : (Nat → Int32)) => r = 1 ∧ zar u (fun j9 => fi (75 * kk + j9)) 75) (fun (u : (Nat → Int32)) => [(mo, .inr (7, [.ref st, .ref im, .ref iz, .ref go, .int li, .ref pt, .ref ch, .ref su, .ref kp, .ref hr, .int bf, .int bc, .int bs, .int bt, .int gd])), (st, .inl (cI, 75, .inl u)), (im, .inl (cI, 150, .inl fi)), (iz, .inl (cZ, 2, .inl fz))]) 0 0 := by
  refine zk_Mi.of (cc := cX7_restore) (maxL := 3) RX7 (by decide) rfl (Nat.le_of_ble_eq_true rfl) rfl ?_
  intro p e s m below meth c A Q H locs ls X hE hA hP hD hS hret hl
  obtain ⟨hx, hb, hml, hown, hts⟩ := id X
  have hl : lv_has ls 3 [(0, .ref mo), (1, .int (nI kk))] := hl
  refine lv_iload_n hx hb dX7_restore_0 rfl (lv_at hl 1 rfl) ?_
  refine lv_iconst (v := 0) hx hb dX7_restore_1 (by decide) ?_
  refine lv_iconst (v := 1) hx hb dX7_restore_2 (by decide) ?_
  refine zk_cSi (rest := []) X hE hA (c_X7_in l D cI cZ ts (nI kk) 0 1) (cwS 3 hts gX7_restore_X7_in rfl rfl rfl hdX7_in ⟨Nat.le_of_ble_eq_true rfl, Nat.le_of_ble_eq_true rfl⟩) dX7_restore_3 hP hD hS rfl hl rfl (Nat.le_of_ble_eq_true rfl) ⟨Nat.le_of_ble_eq_true rfl, Nat.le_of_ble_eq_true rfl⟩ (fun r_3 _ H locs hw_3 hP hD hS => ?_)
  obtain rfl : r_3 = (if 0 ≤ (nI kk) ∧ (nI kk) ≤ 1 then 1 else 0) := hw_3
  refine lv_if_ne (tgt := 12) hx hb dX7_restore_6 (by decide) (fun c_6 => ?_) (fun c_6 => absurd c_6 (by rw [if_pos (zin01 hk)]; decide))
  have c_6 : 0 ≤ (nI kk) ∧ (nI kk) ≤ 1 := zk_ite1 c_6
  refine lv_aload_n hx hb dX7_restore_12 rfl (lv_at hl 0 rfl) ?_
  refine zk_get X hE sX7_restore_13 hP 0 rfl rfl ?_
  refine lv_iload_n hx hb dX7_restore_16 rfl (lv_at hl 1 rfl) ?_
  refine zk_zld hx hb hE hP 3 kk rfl rfl (by omega) (Nat.le_of_ble_eq_true rfl) dX7_restore_17 ?_
  refine lv_if_ne (tgt := 24) hx hb dX7_restore_18 (by decide) (fun c_18 => ?_) (fun c_18 => absurd c_18 hz)
  refine lv_iconst (v := 0) hx hb dX7_restore_24 (by decide) ?_
  refine lv_istore_n (lv' := [(2, .int 0), (0, .ref mo), (1, .int (nI kk))]) hx hb dX7_restore_25 rfl hl (by decide) rfl (fun ls hl => ?_)
  have L_26 : ∀ (n : Nat) (i : Nat) (gs : Nat → Int32) (H : Heap) (locs : List Loc) (ls : Array Slot), (i ≤ 75) → (zar gs (fun j9 => fi (75 * kk + j9)) i) → 75 - i < n → va_P D vwCl [(mo, .inr (7, [.ref st, .ref im, .ref iz, .ref go, .int li, .ref pt, .ref ch, .ref su, .ref kp, .ref hr, .int bf, .int bc, .int bs, .int bt, .int gd])), (st, .inl (cI, 75, .inl gs)), (im, .inl (cI, 150, .inl fi)), (iz, .inl (cZ, 2, .inl fz))] H → va_D A [(mo, .inr (7, [.ref st, .ref im, .ref iz, .ref go, .int li, .ref pt, .ref ch, .ref su, .ref kp, .ref hr, .int bf, .int bc, .int bs, .int bt, .int gd])), (st, .inl (cI, 75, .inl gs)), (im, .inl (cI, 150, .inl fi)), (iz, .inl (cZ, 2, .inl fz))] → va_S A s.heap H locs → lv_has ls 3 [(0, .ref mo), (1, .int (nI kk)), (2, .int (nI i))] → W p l e ({ frames := 1, cells := 0, slots := 0, locals := 22 } : Room) s m ([.ref mo, .int (nI kk)] : List Value).toArray below meth c H locs 0 0 Q (F0 m 26 ls []) := by
    intro n
    induction n with
    | zero =>
      intro i gs H locs ls hi hc hlt hP hD hS hl
      exact absurd hlt (Nat.not_lt_zero _)
    | succ n ih_26 =>
      intro i gs H locs ls hi hc hlt hP hD hS hl
      refine lv_iload_n hx hb dX7_restore_26 rfl (lv_at hl 2 rfl) ?_
      refine lv_bipush (v := 75) hx hb dX7_restore_27 (by decide) ?_
      refine lv_icmp_ge (tgt := 55) hx hb dX7_restore_29 (by decide) (fun c_29 => ?_) (fun c_29 => ?_)
      · have hge := zn_le (a := 75) c_29 (by decide) (by omega)
        have ei : 75 = i := by omega
        subst ei
        refine lv_iconst (v := 1) hx hb dX7_restore_55 (by decide) ?_
        have hq := hret 1 gs H locs 56 ls
        exact hq (⟨rfl, hc⟩) hP hD hS dX7_restore_56
      · have hik := zn_nle (a := 75) c_29 (by omega)
        refine lv_aload_n hx hb dX7_restore_32 rfl (lv_at hl 0 rfl) ?_
        refine zk_get X hE sX7_restore_33 hP 0 rfl rfl ?_
        refine lv_iload_n hx hb dX7_restore_36 rfl (lv_at hl 2 rfl) ?_
        refine lv_aload_n hx hb dX7_restore_37 rfl (lv_at hl 0 rfl) ?_
        refine zk_get X hE sX7_restore_38 hP 0 rfl rfl ?_
        refine lv_bipush (v := 75) hx hb dX7_restore_41 (by decide) ?_
        refine lv_iload_n hx hb dX7_restore_43 rfl (lv_at hl 1 rfl) ?_
        refine lv_imul hx hb dX7_restore_44 ?_
        refine zk_top (show (75 * (nI kk) : Int32) = nI (75 * kk) from pk_mul 75 kk) ?_
        refine lv_iload_n hx hb dX7_restore_45 rfl (lv_at hl 2 rfl) ?_
        refine lv_iadd hx hb dX7_restore_46 ?_
        refine zk_top (show ((nI (75 * kk)) + (nI i) : Int32) = nI ((75 * kk) + i) from nI_add (75 * kk) i) ?_
        refine zk_ald hx hb hE hP 2 ((75 * kk) + i) rfl rfl (by omega) (Nat.le_of_ble_eq_true rfl) dX7_restore_47 ?_
        refine zk_ast (ws' := [(mo, .inr (7, [.ref st, .ref im, .ref iz, .ref go, .int li, .ref pt, .ref ch, .ref su, .ref kp, .ref hr, .int bf, .int bc, .int bs, .int bt, .int gd])), (st, .inl (cI, 75, .inl (upd gs i (fi ((75 * kk) + i))))), (im, .inl (cI, 150, .inl fi)), (iz, .inl (cZ, 2, .inl fz))]) hx hb hE hP hD hS 1 i rfl rfl (by omega) (Nat.le_of_ble_eq_true rfl) dX7_restore_48 rfl (fun H locs hP hD hS => ?_)
        refine lv_iinc (v := nI (i + 1)) (lv' := [(2, .int (nI (i + 1))), (0, .ref mo), (1, .int (nI kk))]) hx hb dX7_restore_49 hl (k := 2) rfl (zk_inc i) (by decide) rfl (fun ls hl => ?_)
        refine lv_goto (tgt := 26) hx hb dX7_restore_52 (by decide) ?_
        exact ih_26 (i + 1) (upd gs i (fi ((75 * kk) + i))) H locs ls (by omega) (zar_s hc rfl) (by omega) hP hD hS (lv_sub hl [1, 2, 0] rfl)
  exact L_26 _ 0 sg H locs ls (Nat.zero_le _) (zar_0 _ _) (Nat.lt_succ_self _) hP hD hS (lv_sub hl [1, 2, 0] rfl)
set_option maxHeartbeats 4000000 in
set_option maxRecDepth 100000 in
theorem c_X7_restore_o (l : Launch) (D : va_G) (cI cZ : ClassId) (ts : Nat → Nat) (mo : Nat) (st : Nat) (im : Nat) (iz : Nat) (go : Nat) (pt : Nat) (ch : Nat) (su : Nat) (kp : Nat) (hr : Nat) (li : Int32) (bf : Int32) (bc : Int32) (bs : Int32) (bt : Int32) (gd : Int32) (fz : Nat → Int32) (kk : Nat) (hk : kk ≤ 1) (hz : fz kk = 0) : zk_Mi l yX7_restore wsX7_restore ({ frames := 1, cells := 0, slots := 0, locals := 22 } : Room) D cI cZ ts [.ref mo, .int (nI kk)] [(mo, .inr (7, [.ref st, .ref im, .ref iz, .ref go, .int li, .ref pt, .ref ch, .ref su, .ref kp, .ref hr, .int bf, .int bc, .int bs, .int bt, .int gd])), (iz, .inl (cZ, 2, .inl fz))] (fun (r : Int32) (_ : Unit) => r = (-3)) (fun (_ : Unit) => [(mo, .inr (7, [.ref st, .ref im, .ref iz, .ref go, .int li, .ref pt, .ref ch, .ref su, .ref kp, .ref hr, .int bf, .int bc, .int bs, .int bt, .int gd])), (iz, .inl (cZ, 2, .inl fz))]) 0 0 := by
  refine zk_Mi.of (cc := cX7_restore) (maxL := 3) RX7 (by decide) rfl (Nat.le_of_ble_eq_true rfl) rfl ?_
  intro p e s m below meth c A Q H locs ls X hE hA hP hD hS hret hl
  obtain ⟨hx, hb, hml, hown, hts⟩ := id X
  have hl : lv_has ls 3 [(0, .ref mo), (1, .int (nI kk))] := hl
  refine lv_iload_n hx hb dX7_restore_0 rfl (lv_at hl 1 rfl) ?_
  refine lv_iconst (v := 0) hx hb dX7_restore_1 (by decide) ?_
  refine lv_iconst (v := 1) hx hb dX7_restore_2 (by decide) ?_
  refine zk_cSi (rest := []) X hE hA (c_X7_in l D cI cZ ts (nI kk) 0 1) (cwS 3 hts gX7_restore_X7_in rfl rfl rfl hdX7_in ⟨Nat.le_of_ble_eq_true rfl, Nat.le_of_ble_eq_true rfl⟩) dX7_restore_3 hP hD hS rfl hl rfl (Nat.le_of_ble_eq_true rfl) ⟨Nat.le_of_ble_eq_true rfl, Nat.le_of_ble_eq_true rfl⟩ (fun r_3 _ H locs hw_3 hP hD hS => ?_)
  obtain rfl : r_3 = (if 0 ≤ (nI kk) ∧ (nI kk) ≤ 1 then 1 else 0) := hw_3
  refine lv_if_ne (tgt := 12) hx hb dX7_restore_6 (by decide) (fun c_6 => ?_) (fun c_6 => absurd c_6 (by rw [if_pos (zin01 hk)]; decide))
  have c_6 : 0 ≤ (nI kk) ∧ (nI kk) ≤ 1 := zk_ite1 c_6
  refine lv_aload_n hx hb dX7_restore_12 rfl (lv_at hl 0 rfl) ?_
  refine zk_get X hE sX7_restore_13 hP 0 rfl rfl ?_
  refine lv_iload_n hx hb dX7_restore_16 rfl (lv_at hl 1 rfl) ?_
  refine zk_zld hx hb hE hP 1 kk rfl rfl (by omega) (Nat.le_of_ble_eq_true rfl) dX7_restore_17 ?_
  refine lv_if_ne (tgt := 24) hx hb dX7_restore_18 (by decide) (fun c_18 => absurd hz c_18) (fun c_18 => ?_)
  refine lv_bipush (v := (-3)) hx hb dX7_restore_21 (by decide) ?_
  exact hret (-3) () H locs 23 ls rfl hP hD hS dX7_restore_23
set_option maxHeartbeats 4000000 in
set_option maxRecDepth 100000 in
theorem c_X7_image_n (l : Launch) (D : va_G) (cI cZ : ClassId) (ts : Nat → Nat) (mo : Nat) (st : Nat) (im : Nat) (iz : Nat) (go : Nat) (pt : Nat) (ch : Nat) (su : Nat) (kp : Nat) (hr : Nat) (li : Int32) (bf : Int32) (bc : Int32) (bs : Int32) (bt : Int32) (gd : Int32) (p0 : Int32) (hC : ¬ (0 ≤ p0 ∧ p0 ≤ 1)) : zk_Mi l yX7_image wsX7_image ({ frames := 1, cells := 0, slots := 0, locals := 22 } : Room) D cI cZ ts [.ref mo, .int p0] [(mo, .inr (7, [.ref st, .ref im, .ref iz, .ref go, .int li, .ref pt, .ref ch, .ref su, .ref kp, .ref hr, .int bf, .int bc, .int bs, .int bt, .int gd]))] (fun (r : Int32) (_ : Unit) => r = (-2)) (fun (_ : Unit) => [(mo, .inr (7, [.ref st, .ref im, .ref iz, .ref go, .int li, .ref pt, .ref ch, .ref su, .ref kp, .ref hr, .int bf, .int bc, .int bs, .int bt, .int gd]))]) 0 0 := by
  refine zk_Mi.of (cc := cX7_image) (maxL := 3) RX7 (by decide) rfl (Nat.le_of_ble_eq_true rfl) rfl ?_
  intro p e s m below meth c A Q H locs ls X hE hA hP hD hS hret hl
  obtain ⟨hx, hb, hml, hown, hts⟩ := id X
  have hl : lv_has ls 3 [(0, .ref mo), (1, .int p0)] := hl
  refine lv_iload_n hx hb dX7_image_0 rfl (lv_at hl 1 rfl) ?_
  refine lv_iconst (v := 0) hx hb dX7_image_1 (by decide) ?_
  refine lv_iconst (v := 1) hx hb dX7_image_2 (by decide) ?_
  refine zk_cSi (rest := []) X hE hA (c_X7_in l D cI cZ ts p0 0 1) (cwS 3 hts gX7_image_X7_in rfl rfl rfl hdX7_in ⟨Nat.le_of_ble_eq_true rfl, Nat.le_of_ble_eq_true rfl⟩) dX7_image_3 hP hD hS rfl hl rfl (Nat.le_of_ble_eq_true rfl) ⟨Nat.le_of_ble_eq_true rfl, Nat.le_of_ble_eq_true rfl⟩ (fun r_3 _ H locs hw_3 hP hD hS => ?_)
  obtain rfl : r_3 = (if 0 ≤ p0 ∧ p0 ≤ 1 then 1 else 0) := hw_3
  refine lv_if_ne (tgt := 12) hx hb dX7_image_6 (by decide) (fun c_6 => absurd c_6 (fun q => q (if_neg hC))) (fun c_6 => ?_)
  have c_6 : ¬ (0 ≤ p0 ∧ p0 ≤ 1) := zk_ite0 c_6
  refine lv_bipush (v := (-2)) hx hb dX7_image_9 (by decide) ?_
  exact hret (-2) () H locs 11 ls rfl hP hD hS dX7_image_11
set_option maxHeartbeats 4000000 in
set_option maxRecDepth 100000 in
theorem c_X7_restore_n (l : Launch) (D : va_G) (cI cZ : ClassId) (ts : Nat → Nat) (mo : Nat) (st : Nat) (im : Nat) (iz : Nat) (go : Nat) (pt : Nat) (ch : Nat) (su : Nat) (kp : Nat) (hr : Nat) (li : Int32) (bf : Int32) (bc : Int32) (bs : Int32) (bt : Int32) (gd : Int32) (p0 : Int32) (hC : ¬ (0 ≤ p0 ∧ p0 ≤ 1)) : zk_Mi l yX7_restore wsX7_restore ({ frames := 1, cells := 0, slots := 0, locals := 22 } : Room) D cI cZ ts [.ref mo, .int p0] [(mo, .inr (7, [.ref st, .ref im, .ref iz, .ref go, .int li, .ref pt, .ref ch, .ref su, .ref kp, .ref hr, .int bf, .int bc, .int bs, .int bt, .int gd]))] (fun (r : Int32) (_ : Unit) => r = (-2)) (fun (_ : Unit) => [(mo, .inr (7, [.ref st, .ref im, .ref iz, .ref go, .int li, .ref pt, .ref ch, .ref su, .ref kp, .ref hr, .int bf, .int bc, .int bs, .int bt, .int gd]))]) 0 0 := by
  refine zk_Mi.of (cc := cX7_restore) (maxL := 3) RX7 (by decide) rfl (Nat.le_of_ble_eq_true rfl) rfl ?_
  intro p e s m below meth c A Q H locs ls X hE hA hP hD hS hret hl
  obtain ⟨hx, hb, hml, hown, hts⟩ := id X
  have hl : lv_has ls 3 [(0, .ref mo), (1, .int p0)] := hl
  refine lv_iload_n hx hb dX7_restore_0 rfl (lv_at hl 1 rfl) ?_
  refine lv_iconst (v := 0) hx hb dX7_restore_1 (by decide) ?_
  refine lv_iconst (v := 1) hx hb dX7_restore_2 (by decide) ?_
  refine zk_cSi (rest := []) X hE hA (c_X7_in l D cI cZ ts p0 0 1) (cwS 3 hts gX7_restore_X7_in rfl rfl rfl hdX7_in ⟨Nat.le_of_ble_eq_true rfl, Nat.le_of_ble_eq_true rfl⟩) dX7_restore_3 hP hD hS rfl hl rfl (Nat.le_of_ble_eq_true rfl) ⟨Nat.le_of_ble_eq_true rfl, Nat.le_of_ble_eq_true rfl⟩ (fun r_3 _ H locs hw_3 hP hD hS => ?_)
  obtain rfl : r_3 = (if 0 ≤ p0 ∧ p0 ≤ 1 then 1 else 0) := hw_3
  refine lv_if_ne (tgt := 12) hx hb dX7_restore_6 (by decide) (fun c_6 => absurd c_6 (fun q => q (if_neg hC))) (fun c_6 => ?_)
  have c_6 : ¬ (0 ≤ p0 ∧ p0 ≤ 1) := zk_ite0 c_6
  refine lv_bipush (v := (-2)) hx hb dX7_restore_9 (by decide) ?_
  exact hret (-2) () H locs 11 ls rfl hP hD hS dX7_restore_11
set_option maxHeartbeats 4000000 in
set_option maxRecDepth 100000 in
theorem c_X7_count (l : Launch) (D : va_G) (cI cZ : ClassId) (ts : Nat → Nat) (mo : Nat) (st : Nat) (im : Nat) (iz : Nat) (go : Nat) (pt : Nat) (ch : Nat) (su : Nat) (kp : Nat) (hr : Nat) (li : Int32) (bf : Int32) (bc : Int32) (bs : Int32) (bt : Int32) (gd : Int32) (sg : Nat → Int32) (fz : Nat → Int32) (p0 : Int32)  : zk_Mi l yX7_count wsX7_count ({ frames := 1, cells := 0, slots := 0, locals := 22 } : Room) D cI cZ ts [.ref mo, .int p0] [(mo, .inr (7, [.ref st, .ref im, .ref iz, .ref go, .int li, .ref pt, .ref ch, .ref su, .ref kp, .ref hr, .int bf, .int bc, .int bs, .int bt, .int gd])), (st, .inl (cI, 75, .inl sg)), (iz, .inl (cZ, 2, .inl fz))] (fun (r : Int32) (_ : Unit) => r = (zcnt sg (zpl sg) (zru sg) (sg 25) (sg 26) (zik fz) p0)) (fun (_ : Unit) => [(mo, .inr (7, [.ref st, .ref im, .ref iz, .ref go, .int li, .ref pt, .ref ch, .ref su, .ref kp, .ref hr, .int bf, .int bc, .int bs, .int bt, .int gd])), (st, .inl (cI, 75, .inl sg)), (iz, .inl (cZ, 2, .inl fz))]) 0 0 := by
  refine zk_Mi.of (cc := cX7_count) (maxL := 2) RX7 (by decide) rfl (Nat.le_of_ble_eq_true rfl) rfl ?_
  intro p e s m below meth c A Q H locs ls X hE hA hP hD hS hret hl
  obtain ⟨hx, hb, hml, hown, hts⟩ := id X
  have hl : lv_has ls 2 [(0, .ref mo), (1, .int p0)] := hl
  refine lv_iload_n hx hb dX7_count_0 rfl (lv_at hl 1 rfl) ?_
  refine lv_iconst (v := 3) hx hb dX7_count_1 (by decide) ?_
  refine lv_bipush (v := 6) hx hb dX7_count_2 (by decide) ?_
  refine zk_cSi (rest := []) X hE hA (c_X7_in l D cI cZ ts p0 3 6) (cwS 3 hts gX7_count_X7_in rfl rfl rfl hdX7_in ⟨Nat.le_of_ble_eq_true rfl, Nat.le_of_ble_eq_true rfl⟩) dX7_count_4 hP hD hS rfl hl rfl (Nat.le_of_ble_eq_true rfl) ⟨Nat.le_of_ble_eq_true rfl, Nat.le_of_ble_eq_true rfl⟩ (fun r_4 _ H locs hw_4 hP hD hS => ?_)
  obtain rfl : r_4 = (if 3 ≤ p0 ∧ p0 ≤ 6 then 1 else 0) := hw_4
  refine lv_if_eq (tgt := 21) hx hb dX7_count_7 (by decide) (fun c_7 => ?_) (fun c_7 => ?_)
  · have c_7 : ¬ (3 ≤ p0 ∧ p0 ≤ 6) := zk_ite0 c_7
    refine lv_iload_n hx hb dX7_count_21 rfl (lv_at hl 1 rfl) ?_
    refine lv_bipush (v := 10) hx hb dX7_count_22 (by decide) ?_
    refine lv_bipush (v := 15) hx hb dX7_count_24 (by decide) ?_
    refine zk_cSi (rest := []) X hE hA (c_X7_in l D cI cZ ts p0 10 15) (cwS 3 hts gX7_count_X7_in rfl rfl rfl hdX7_in ⟨Nat.le_of_ble_eq_true rfl, Nat.le_of_ble_eq_true rfl⟩) dX7_count_26 hP hD hS rfl hl rfl (Nat.le_of_ble_eq_true rfl) ⟨Nat.le_of_ble_eq_true rfl, Nat.le_of_ble_eq_true rfl⟩ (fun r_26 _ H locs hw_26 hP hD hS => ?_)
    obtain rfl : r_26 = (if 10 ≤ p0 ∧ p0 ≤ 15 then 1 else 0) := hw_26
    refine lv_if_eq (tgt := 45) hx hb dX7_count_29 (by decide) (fun c_29 => ?_) (fun c_29 => ?_)
    · have c_29 : ¬ (10 ≤ p0 ∧ p0 ≤ 15) := zk_ite0 c_29
      refine lv_iload_n hx hb dX7_count_45 rfl (lv_at hl 1 rfl) ?_
      refine lv_bipush (v := 20) hx hb dX7_count_46 (by decide) ?_
      refine lv_bipush (v := 30) hx hb dX7_count_48 (by decide) ?_
      refine zk_cSi (rest := []) X hE hA (c_X7_in l D cI cZ ts p0 20 30) (cwS 3 hts gX7_count_X7_in rfl rfl rfl hdX7_in ⟨Nat.le_of_ble_eq_true rfl, Nat.le_of_ble_eq_true rfl⟩) dX7_count_50 hP hD hS rfl hl rfl (Nat.le_of_ble_eq_true rfl) ⟨Nat.le_of_ble_eq_true rfl, Nat.le_of_ble_eq_true rfl⟩ (fun r_50 _ H locs hw_50 hP hD hS => ?_)
      obtain rfl : r_50 = (if 20 ≤ p0 ∧ p0 ≤ 30 then 1 else 0) := hw_50
      refine lv_if_eq (tgt := 68) hx hb dX7_count_53 (by decide) (fun c_53 => ?_) (fun c_53 => ?_)
      · have c_53 : ¬ (20 ≤ p0 ∧ p0 ≤ 30) := zk_ite0 c_53
        refine lv_iload_n hx hb dX7_count_68 rfl (lv_at hl 1 rfl) ?_
        by_cases h_69_0 : p0 = 0
        · refine zk_top h_69_0 ?_
          refine lv_tableIn (tgt := 96) hx hb dX7_count_69 (by decide) (by decide) rfl (by decide) ?_
          refine lv_aload_n hx hb dX7_count_96 rfl (lv_at hl 0 rfl) ?_
          refine zk_get X hE sX7_count_97 hP 0 rfl rfl ?_
          refine lv_bipush (v := 25) hx hb dX7_count_100 (by decide) ?_
          refine zk_ald hx hb hE hP 1 25 rfl rfl (Nat.le_of_ble_eq_true rfl) (Nat.le_of_ble_eq_true rfl) dX7_count_102 ?_
          exact hret (sg 25) () H locs 103 ls (by unfold zcnt zik; rw [if_neg c_7, if_neg c_29, if_neg c_53]; simp [c_7, c_29, c_53, h_69_0]) hP hD hS dX7_count_103
        by_cases h_69_1 : p0 = 1
        · refine zk_top h_69_1 ?_
          refine lv_tableIn (tgt := 104) hx hb dX7_count_69 (by decide) (by decide) rfl (by decide) ?_
          refine lv_aload_n hx hb dX7_count_104 rfl (lv_at hl 0 rfl) ?_
          refine zk_get X hE sX7_count_105 hP 0 rfl rfl ?_
          refine lv_bipush (v := 26) hx hb dX7_count_108 (by decide) ?_
          refine zk_ald hx hb hE hP 1 26 rfl rfl (Nat.le_of_ble_eq_true rfl) (Nat.le_of_ble_eq_true rfl) dX7_count_110 ?_
          exact hret (sg 26) () H locs 111 ls (by unfold zcnt zik; rw [if_neg c_7, if_neg c_29, if_neg c_53]; simp [c_7, c_29, c_53, h_69_0, h_69_1]) hP hD hS dX7_count_111
        by_cases h_69_2 : p0 = 2
        · refine zk_top h_69_2 ?_
          refine lv_tableIn (tgt := 112) hx hb dX7_count_69 (by decide) (by decide) rfl (by decide) ?_
          refine lv_aload_n hx hb dX7_count_112 rfl (lv_at hl 0 rfl) ?_
          refine zk_get X hE sX7_count_113 hP 0 rfl rfl ?_
          refine lv_iconst (v := 0) hx hb dX7_count_116 (by decide) ?_
          refine zk_zld hx hb hE hP 2 0 rfl rfl (Nat.le_of_ble_eq_true rfl) (Nat.le_of_ble_eq_true rfl) dX7_count_117 ?_
          refine lv_if_eq (tgt := 125) hx hb dX7_count_118 (by decide) (fun c_118 => ?_) (fun c_118 => ?_)
          · refine lv_iconst (v := 0) hx hb dX7_count_125 (by decide) ?_
            refine lv_aload_n hx hb dX7_count_126 rfl (lv_at hl 0 rfl) ?_
            refine zk_get X hE sX7_count_127 hP 0 rfl rfl ?_
            refine lv_iconst (v := 1) hx hb dX7_count_130 (by decide) ?_
            refine zk_zld hx hb hE hP 2 1 rfl rfl (Nat.le_of_ble_eq_true rfl) (Nat.le_of_ble_eq_true rfl) dX7_count_131 ?_
            refine lv_if_eq (tgt := 139) hx hb dX7_count_132 (by decide) (fun c_132 => ?_) (fun c_132 => ?_)
            · refine lv_iconst (v := 0) hx hb dX7_count_139 (by decide) ?_
              refine lv_iadd hx hb dX7_count_140 ?_
              refine zk_top (show (0 + 0 : Int32) = 0 by decide) ?_
              exact hret 0 () H locs 141 ls (by unfold zcnt zik; rw [if_neg c_7, if_neg c_29, if_neg c_53]; simp [c_7, c_29, c_53, h_69_0, h_69_1, h_69_2, c_118, c_132]) hP hD hS dX7_count_141
            · refine lv_iconst (v := 2) hx hb dX7_count_135 (by decide) ?_
              refine lv_goto (tgt := 140) hx hb dX7_count_136 (by decide) ?_
              refine lv_iadd hx hb dX7_count_140 ?_
              refine zk_top (show (0 + 2 : Int32) = 2 by decide) ?_
              exact hret 2 () H locs 141 ls (by unfold zcnt zik; rw [if_neg c_7, if_neg c_29, if_neg c_53]; simp [c_7, c_29, c_53, h_69_0, h_69_1, h_69_2, c_118, c_132]) hP hD hS dX7_count_141
          · refine lv_iconst (v := 1) hx hb dX7_count_121 (by decide) ?_
            refine lv_goto (tgt := 126) hx hb dX7_count_122 (by decide) ?_
            refine lv_aload_n hx hb dX7_count_126 rfl (lv_at hl 0 rfl) ?_
            refine zk_get X hE sX7_count_127 hP 0 rfl rfl ?_
            refine lv_iconst (v := 1) hx hb dX7_count_130 (by decide) ?_
            refine zk_zld hx hb hE hP 2 1 rfl rfl (Nat.le_of_ble_eq_true rfl) (Nat.le_of_ble_eq_true rfl) dX7_count_131 ?_
            refine lv_if_eq (tgt := 139) hx hb dX7_count_132 (by decide) (fun c_132 => ?_) (fun c_132 => ?_)
            · refine lv_iconst (v := 0) hx hb dX7_count_139 (by decide) ?_
              refine lv_iadd hx hb dX7_count_140 ?_
              refine zk_top (show (1 + 0 : Int32) = 1 by decide) ?_
              exact hret 1 () H locs 141 ls (by unfold zcnt zik; rw [if_neg c_7, if_neg c_29, if_neg c_53]; simp [c_7, c_29, c_53, h_69_0, h_69_1, h_69_2, c_118, c_132]) hP hD hS dX7_count_141
            · refine lv_iconst (v := 2) hx hb dX7_count_135 (by decide) ?_
              refine lv_goto (tgt := 140) hx hb dX7_count_136 (by decide) ?_
              refine lv_iadd hx hb dX7_count_140 ?_
              refine zk_top (show (1 + 2 : Int32) = 3 by decide) ?_
              exact hret 3 () H locs 141 ls (by unfold zcnt zik; rw [if_neg c_7, if_neg c_29, if_neg c_53]; simp [c_7, c_29, c_53, h_69_0, h_69_1, h_69_2, c_118, c_132]) hP hD hS dX7_count_141
        refine lv_tableOut (tgt := 142) hx hb dX7_count_69 (by have z0 := lv_neT (a := 0) h_69_0 (by decide); have z1 := lv_neT (a := 1) h_69_1 (by decide); have z2 := lv_neT (a := 2) h_69_2 (by decide); omega) (by decide) ?_
        refine lv_bipush (v := (-2)) hx hb dX7_count_142 (by decide) ?_
        exact hret (-2) () H locs 144 ls (by unfold zcnt zik; rw [if_neg c_7, if_neg c_29, if_neg c_53]; simp [c_7, c_29, c_53, h_69_0, h_69_1, h_69_2]) hP hD hS dX7_count_144
      · have c_53 : 20 ≤ p0 ∧ p0 ≤ 30 := zk_ite1 c_53
        refine lv_aload_n hx hb dX7_count_56 rfl (lv_at hl 0 rfl) ?_
        refine zk_get X hE sX7_count_57 hP 0 rfl rfl ?_
        refine lv_iconst (v := 4) hx hb dX7_count_60 (by decide) ?_
        refine lv_iload_n hx hb dX7_count_61 rfl (lv_at hl 1 rfl) ?_
        refine lv_iadd hx hb dX7_count_62 ?_
        refine lv_bipush (v := 20) hx hb dX7_count_63 (by decide) ?_
        refine lv_isub hx hb dX7_count_65 ?_
        refine zk_ald hx hb hE hP 1 (4 + (p0 - 20).toNatClampNeg) rfl (zj_sub2 4 (zj_sub (L := 20) (M := 30) (a := 20) (b := 30) rfl rfl (by decide) (by decide) c_53).1) (by have := (zj_sub (L := 20) (M := 30) (a := 20) (b := 30) rfl rfl (by decide) (by decide) c_53).2; omega) (Nat.le_of_ble_eq_true rfl) dX7_count_66 ?_
        exact hret (sg (4 + (p0 - 20).toNatClampNeg)) () H locs 67 ls (by unfold zcnt; rw [if_neg c_7, if_neg c_29, if_pos c_53]; rfl) hP hD hS dX7_count_67
    · have c_29 : 10 ≤ p0 ∧ p0 ≤ 15 := zk_ite1 c_29
      refine lv_aload_n hx hb dX7_count_32 rfl (lv_at hl 0 rfl) ?_
      refine zk_get X hE sX7_count_33 hP 0 rfl rfl ?_
      refine lv_bipush (v := 15) hx hb dX7_count_36 (by decide) ?_
      refine lv_iload_n hx hb dX7_count_38 rfl (lv_at hl 1 rfl) ?_
      refine lv_iadd hx hb dX7_count_39 ?_
      refine lv_bipush (v := 10) hx hb dX7_count_40 (by decide) ?_
      refine lv_isub hx hb dX7_count_42 ?_
      refine zk_ald hx hb hE hP 1 (15 + (p0 - 10).toNatClampNeg) rfl (zj_sub2 15 (zj_sub (L := 10) (M := 15) (a := 10) (b := 15) rfl rfl (by decide) (by decide) c_29).1) (by have := (zj_sub (L := 10) (M := 15) (a := 10) (b := 15) rfl rfl (by decide) (by decide) c_29).2; omega) (Nat.le_of_ble_eq_true rfl) dX7_count_43 ?_
      exact hret (sg (15 + (p0 - 10).toNatClampNeg)) () H locs 44 ls (by unfold zcnt; rw [if_neg c_7, if_pos c_29]; rfl) hP hD hS dX7_count_44
  · have c_7 : 3 ≤ p0 ∧ p0 ≤ 6 := zk_ite1 c_7
    refine lv_aload_n hx hb dX7_count_10 rfl (lv_at hl 0 rfl) ?_
    refine zk_get X hE sX7_count_11 hP 0 rfl rfl ?_
    refine lv_iconst (v := 0) hx hb dX7_count_14 (by decide) ?_
    refine lv_iload_n hx hb dX7_count_15 rfl (lv_at hl 1 rfl) ?_
    refine lv_iadd hx hb dX7_count_16 ?_
    refine lv_iconst (v := 3) hx hb dX7_count_17 (by decide) ?_
    refine lv_isub hx hb dX7_count_18 ?_
    refine zk_ald hx hb hE hP 1 (0 + (p0 - 3).toNatClampNeg) rfl (zj_sub2 0 (zj_sub (L := 3) (M := 6) (a := 3) (b := 6) rfl rfl (by decide) (by decide) c_7).1) (by have := (zj_sub (L := 3) (M := 6) (a := 3) (b := 6) rfl rfl (by decide) (by decide) c_7).2; omega) (Nat.le_of_ble_eq_true rfl) dX7_count_19 ?_
    exact hret (sg (0 + (p0 - 3).toNatClampNeg)) () H locs 20 ls (by unfold zcnt; rw [if_pos c_7]; exact congrArg sg (Nat.zero_add _)) hP hD hS dX7_count_20
