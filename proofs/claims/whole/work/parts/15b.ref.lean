set_option maxHeartbeats 4000000 in
set_option maxRecDepth 100000 in
theorem c_X7_layRuns (l : Launch) (D : va_G) (cI cZ : ClassId) (ts : Nat → Nat) (mo : Nat) (st : Nat) (im : Nat) (iz : Nat) (go : Nat) (pt : Nat) (ch : Nat) (su : Nat) (kp : Nat) (hr : Nat) (li : Int32) (bf : Int32) (bc : Int32) (bs : Int32) (bt : Int32) (gd : Int32) (sg : Nat → Int32) (fg : Nat → Int32) (fp : Nat → Int32) (fc : Nat → Int32) (fs : Nat → Int32) (fk : Nat → Int32) (fh : Nat → Int32) (hsl : 1 ≤ sg 19 ∧ sg 19 ≤ 99) (hsp : ∀ r i, ¬ zP (zpl sg) (zru sg) (zch sg (zKr sg (zpl sg) (zru sg) (zkk sg) r)) i 1 < 0) (hru : ¬ sg 15 < 0) : zk_Mv l yX7_layRuns wsX7_layRuns ({ frames := 2, cells := 0, slots := 0, locals := 51 } : Room) D cI cZ ts [.ref mo] [(mo, .inr (7, [.ref st, .ref im, .ref iz, .ref go, .int li, .ref pt, .ref ch, .ref su, .ref kp, .ref hr, .int bf, .int bc, .int bs, .int bt, .int gd])), (st, .inl (cI, 75, .inl sg)), (go, .inl (cI, 160, .inl fg)), (pt, .inl (cI, 4, .inl fp)), (ch, .inl (cI, 4, .inl fc)), (su, .inl (cI, 4, .inl fs)), (kp, .inl (cI, 1204, .inl fk)), (hr, .inl (cI, 600, .inl fh))] (fun (u : Int32 × (Nat → Int32) × (Nat → Int32) × (Nat → Int32) × (Nat → Int32) × (Nat → Int32) × (Nat → Int32)) => zks (zKr sg (zpl sg) (zru sg) (zkk sg)) u.2.2.2.2.2.1 301 ∧ zhs (fun r k => zHs sg (zpl sg) (zru sg) (zkk sg) k r) u.2.2.2.2.2.2 300) (fun (u : Int32 × (Nat → Int32) × (Nat → Int32) × (Nat → Int32) × (Nat → Int32) × (Nat → Int32) × (Nat → Int32)) => [(mo, .inr (7, [.ref st, .ref im, .ref iz, .ref go, .int u.1, .ref pt, .ref ch, .ref su, .ref kp, .ref hr, .int bf, .int bc, .int bs, .int bt, .int gd])), (st, .inl (cI, 75, .inl sg)), (go, .inl (cI, 160, .inl u.2.1)), (pt, .inl (cI, 4, .inl u.2.2.1)), (ch, .inl (cI, 4, .inl u.2.2.2.1)), (su, .inl (cI, 4, .inl u.2.2.2.2.1)), (kp, .inl (cI, 1204, .inl u.2.2.2.2.2.1)), (hr, .inl (cI, 600, .inl u.2.2.2.2.2.2))]) 0 0 := by
  refine zk_Mv.of (cc := cX7_layRuns) (maxL := 3) RX7 (by decide) rfl (Nat.le_of_ble_eq_true rfl) rfl ?_
  intro p e s m below meth c A Q H locs ls X hE hA hin hP hD hS hret hl
  obtain ⟨hx, hb, hml, hown, hts⟩ := id X
  have hl : lv_has ls 3 [(0, .ref mo)] := hl
  obtain ⟨hfo, hf31⟩ := zfo_eq (ru := zru sg) hru
  refine lv_iconst (v := 0) hx hb dX7_layRuns_0 (by decide) ?_
  refine lv_istore_n (lv' := [(1, .int 0), (0, .ref mo)]) hx hb dX7_layRuns_1 rfl hl (by decide) rfl (fun ls hl => ?_)
  refine lv_iload_n hx hb dX7_layRuns_2 rfl (lv_at hl 0 rfl) ?_
  refine lv_iconst (v := 4) hx hb dX7_layRuns_3 (by decide) ?_
  refine lv_icmp_ge (tgt := 28) hx hb dX7_layRuns_4 (by decide) (fun c_4 => absurd c_4 (by decide)) (fun c_4 => ?_)
  refine lv_aload_n hx hb dX7_layRuns_7 rfl (lv_at hl 1 rfl) ?_
  refine zk_get X hE sX7_layRuns_8 hP 0 rfl rfl ?_
  refine lv_iload_n hx hb dX7_layRuns_11 rfl (lv_at hl 0 rfl) ?_
  refine lv_aload_n hx hb dX7_layRuns_12 rfl (lv_at hl 1 rfl) ?_
  refine zk_get X hE sX7_layRuns_13 hP 0 rfl rfl ?_
  refine lv_bipush (v := 21) hx hb dX7_layRuns_16 (by decide) ?_
  refine lv_iload_n hx hb dX7_layRuns_18 rfl (lv_at hl 0 rfl) ?_
  refine lv_iadd hx hb dX7_layRuns_19 ?_
  refine zk_top (show (21 + 0 : Int32) = 21 by decide) ?_
  refine zk_ald hx hb hE hP 1 21 rfl rfl (Nat.le_of_ble_eq_true rfl) (Nat.le_of_ble_eq_true rfl) dX7_layRuns_20 ?_
  refine zk_ast (ws' := [(mo, .inr (7, [.ref st, .ref im, .ref iz, .ref go, .int li, .ref pt, .ref ch, .ref su, .ref kp, .ref hr, .int bf, .int bc, .int bs, .int bt, .int gd])), (st, .inl (cI, 75, .inl sg)), (go, .inl (cI, 160, .inl fg)), (pt, .inl (cI, 4, .inl fp)), (ch, .inl (cI, 4, .inl fc)), (su, .inl (cI, 4, .inl fs)), (kp, .inl (cI, 1204, .inl (upd fk 0 (sg 21)))), (hr, .inl (cI, 600, .inl fh))]) hx hb hE hP hD hS 6 0 rfl rfl (Nat.le_of_ble_eq_true rfl) (Nat.le_of_ble_eq_true rfl) dX7_layRuns_21 rfl (fun H locs hP hD hS => ?_)
  refine lv_iinc (v := 1) (lv' := [(1, .int 1), (0, .ref mo)]) hx hb dX7_layRuns_22 hl (k := 0) rfl (by decide) (by decide) rfl (fun ls hl => ?_)
  refine lv_goto (tgt := 2) hx hb dX7_layRuns_25 (by decide) ?_
  refine lv_iload_n hx hb dX7_layRuns_2 rfl (lv_at hl 0 rfl) ?_
  refine lv_iconst (v := 4) hx hb dX7_layRuns_3 (by decide) ?_
  refine lv_icmp_ge (tgt := 28) hx hb dX7_layRuns_4 (by decide) (fun c_4 => absurd c_4 (by decide)) (fun c_4 => ?_)
  refine lv_aload_n hx hb dX7_layRuns_7 rfl (lv_at hl 1 rfl) ?_
  refine zk_get X hE sX7_layRuns_8 hP 0 rfl rfl ?_
  refine lv_iload_n hx hb dX7_layRuns_11 rfl (lv_at hl 0 rfl) ?_
  refine lv_aload_n hx hb dX7_layRuns_12 rfl (lv_at hl 1 rfl) ?_
  refine zk_get X hE sX7_layRuns_13 hP 0 rfl rfl ?_
  refine lv_bipush (v := 21) hx hb dX7_layRuns_16 (by decide) ?_
  refine lv_iload_n hx hb dX7_layRuns_18 rfl (lv_at hl 0 rfl) ?_
  refine lv_iadd hx hb dX7_layRuns_19 ?_
  refine zk_top (show (21 + 1 : Int32) = 22 by decide) ?_
  refine zk_ald hx hb hE hP 1 22 rfl rfl (Nat.le_of_ble_eq_true rfl) (Nat.le_of_ble_eq_true rfl) dX7_layRuns_20 ?_
  refine zk_ast (ws' := [(mo, .inr (7, [.ref st, .ref im, .ref iz, .ref go, .int li, .ref pt, .ref ch, .ref su, .ref kp, .ref hr, .int bf, .int bc, .int bs, .int bt, .int gd])), (st, .inl (cI, 75, .inl sg)), (go, .inl (cI, 160, .inl fg)), (pt, .inl (cI, 4, .inl fp)), (ch, .inl (cI, 4, .inl fc)), (su, .inl (cI, 4, .inl fs)), (kp, .inl (cI, 1204, .inl (upd (upd fk 0 (sg 21)) 1 (sg 22)))), (hr, .inl (cI, 600, .inl fh))]) hx hb hE hP hD hS 6 1 rfl rfl (Nat.le_of_ble_eq_true rfl) (Nat.le_of_ble_eq_true rfl) dX7_layRuns_21 rfl (fun H locs hP hD hS => ?_)
  refine lv_iinc (v := 2) (lv' := [(1, .int 2), (0, .ref mo)]) hx hb dX7_layRuns_22 hl (k := 0) rfl (by decide) (by decide) rfl (fun ls hl => ?_)
  refine lv_goto (tgt := 2) hx hb dX7_layRuns_25 (by decide) ?_
  refine lv_iload_n hx hb dX7_layRuns_2 rfl (lv_at hl 0 rfl) ?_
  refine lv_iconst (v := 4) hx hb dX7_layRuns_3 (by decide) ?_
  refine lv_icmp_ge (tgt := 28) hx hb dX7_layRuns_4 (by decide) (fun c_4 => absurd c_4 (by decide)) (fun c_4 => ?_)
  refine lv_aload_n hx hb dX7_layRuns_7 rfl (lv_at hl 1 rfl) ?_
  refine zk_get X hE sX7_layRuns_8 hP 0 rfl rfl ?_
  refine lv_iload_n hx hb dX7_layRuns_11 rfl (lv_at hl 0 rfl) ?_
  refine lv_aload_n hx hb dX7_layRuns_12 rfl (lv_at hl 1 rfl) ?_
  refine zk_get X hE sX7_layRuns_13 hP 0 rfl rfl ?_
  refine lv_bipush (v := 21) hx hb dX7_layRuns_16 (by decide) ?_
  refine lv_iload_n hx hb dX7_layRuns_18 rfl (lv_at hl 0 rfl) ?_
  refine lv_iadd hx hb dX7_layRuns_19 ?_
  refine zk_top (show (21 + 2 : Int32) = 23 by decide) ?_
  refine zk_ald hx hb hE hP 1 23 rfl rfl (Nat.le_of_ble_eq_true rfl) (Nat.le_of_ble_eq_true rfl) dX7_layRuns_20 ?_
  refine zk_ast (ws' := [(mo, .inr (7, [.ref st, .ref im, .ref iz, .ref go, .int li, .ref pt, .ref ch, .ref su, .ref kp, .ref hr, .int bf, .int bc, .int bs, .int bt, .int gd])), (st, .inl (cI, 75, .inl sg)), (go, .inl (cI, 160, .inl fg)), (pt, .inl (cI, 4, .inl fp)), (ch, .inl (cI, 4, .inl fc)), (su, .inl (cI, 4, .inl fs)), (kp, .inl (cI, 1204, .inl (upd (upd (upd fk 0 (sg 21)) 1 (sg 22)) 2 (sg 23)))), (hr, .inl (cI, 600, .inl fh))]) hx hb hE hP hD hS 6 2 rfl rfl (Nat.le_of_ble_eq_true rfl) (Nat.le_of_ble_eq_true rfl) dX7_layRuns_21 rfl (fun H locs hP hD hS => ?_)
  refine lv_iinc (v := 3) (lv' := [(1, .int 3), (0, .ref mo)]) hx hb dX7_layRuns_22 hl (k := 0) rfl (by decide) (by decide) rfl (fun ls hl => ?_)
  refine lv_goto (tgt := 2) hx hb dX7_layRuns_25 (by decide) ?_
  refine lv_iload_n hx hb dX7_layRuns_2 rfl (lv_at hl 0 rfl) ?_
  refine lv_iconst (v := 4) hx hb dX7_layRuns_3 (by decide) ?_
  refine lv_icmp_ge (tgt := 28) hx hb dX7_layRuns_4 (by decide) (fun c_4 => absurd c_4 (by decide)) (fun c_4 => ?_)
  refine lv_aload_n hx hb dX7_layRuns_7 rfl (lv_at hl 1 rfl) ?_
  refine zk_get X hE sX7_layRuns_8 hP 0 rfl rfl ?_
  refine lv_iload_n hx hb dX7_layRuns_11 rfl (lv_at hl 0 rfl) ?_
  refine lv_aload_n hx hb dX7_layRuns_12 rfl (lv_at hl 1 rfl) ?_
  refine zk_get X hE sX7_layRuns_13 hP 0 rfl rfl ?_
  refine lv_bipush (v := 21) hx hb dX7_layRuns_16 (by decide) ?_
  refine lv_iload_n hx hb dX7_layRuns_18 rfl (lv_at hl 0 rfl) ?_
  refine lv_iadd hx hb dX7_layRuns_19 ?_
  refine zk_top (show (21 + 3 : Int32) = 24 by decide) ?_
  refine zk_ald hx hb hE hP 1 24 rfl rfl (Nat.le_of_ble_eq_true rfl) (Nat.le_of_ble_eq_true rfl) dX7_layRuns_20 ?_
  refine zk_ast (ws' := [(mo, .inr (7, [.ref st, .ref im, .ref iz, .ref go, .int li, .ref pt, .ref ch, .ref su, .ref kp, .ref hr, .int bf, .int bc, .int bs, .int bt, .int gd])), (st, .inl (cI, 75, .inl sg)), (go, .inl (cI, 160, .inl fg)), (pt, .inl (cI, 4, .inl fp)), (ch, .inl (cI, 4, .inl fc)), (su, .inl (cI, 4, .inl fs)), (kp, .inl (cI, 1204, .inl (upd (upd (upd (upd fk 0 (sg 21)) 1 (sg 22)) 2 (sg 23)) 3 (sg 24)))), (hr, .inl (cI, 600, .inl fh))]) hx hb hE hP hD hS 6 3 rfl rfl (Nat.le_of_ble_eq_true rfl) (Nat.le_of_ble_eq_true rfl) dX7_layRuns_21 rfl (fun H locs hP hD hS => ?_)
  refine lv_iinc (v := 4) (lv' := [(1, .int 4), (0, .ref mo)]) hx hb dX7_layRuns_22 hl (k := 0) rfl (by decide) (by decide) rfl (fun ls hl => ?_)
  refine lv_goto (tgt := 2) hx hb dX7_layRuns_25 (by decide) ?_
  refine lv_iload_n hx hb dX7_layRuns_2 rfl (lv_at hl 0 rfl) ?_
  refine lv_iconst (v := 4) hx hb dX7_layRuns_3 (by decide) ?_
  refine lv_icmp_ge (tgt := 28) hx hb dX7_layRuns_4 (by decide) (fun c_4 => ?_) (fun c_4 => absurd c_4 (by decide))
  refine lv_iconst (v := 0) hx hb dX7_layRuns_28 (by decide) ?_
  refine lv_istore_n (lv' := [(1, .int 0), (0, .ref mo)]) hx hb dX7_layRuns_29 rfl hl (by decide) rfl (fun ls hl => ?_)
  have L_30 : ∀ (n : Nat) (i : Nat) (li : Int32) (fg : Nat → Int32) (fp : Nat → Int32) (fc : Nat → Int32) (fs : Nat → Int32) (fk : Nat → Int32) (fh : Nat → Int32) (H : Heap) (locs : List Loc) (ls : Array Slot), (i ≤ 300) → (zks (zKr sg (zpl sg) (zru sg) (zkk sg)) fk (i + 1)) → (zhs (fun r k => zHs sg (zpl sg) (zru sg) (zkk sg) k r) fh i) → 300 - i < n → va_P D vwCl [(mo, .inr (7, [.ref st, .ref im, .ref iz, .ref go, .int li, .ref pt, .ref ch, .ref su, .ref kp, .ref hr, .int bf, .int bc, .int bs, .int bt, .int gd])), (st, .inl (cI, 75, .inl sg)), (go, .inl (cI, 160, .inl fg)), (pt, .inl (cI, 4, .inl fp)), (ch, .inl (cI, 4, .inl fc)), (su, .inl (cI, 4, .inl fs)), (kp, .inl (cI, 1204, .inl fk)), (hr, .inl (cI, 600, .inl fh))] H → va_D A [(mo, .inr (7, [.ref st, .ref im, .ref iz, .ref go, .int li, .ref pt, .ref ch, .ref su, .ref kp, .ref hr, .int bf, .int bc, .int bs, .int bt, .int gd])), (st, .inl (cI, 75, .inl sg)), (go, .inl (cI, 160, .inl fg)), (pt, .inl (cI, 4, .inl fp)), (ch, .inl (cI, 4, .inl fc)), (su, .inl (cI, 4, .inl fs)), (kp, .inl (cI, 1204, .inl fk)), (hr, .inl (cI, 600, .inl fh))] → va_S A s.heap H locs → lv_has ls 3 [(0, .ref mo), (1, .int (nI i))] → W p l e ({ frames := 2, cells := 0, slots := 0, locals := 51 } : Room) s m ([.ref mo] : List Value).toArray below meth c H locs 0 0 Q (F0 m 30 ls []) := by
    intro n
    induction n with
    | zero =>
      intro i li fg fp fc fs fk fh H locs ls hi dk dh hlt hP hD hS hl
      exact absurd hlt (Nat.not_lt_zero _)
    | succ n ih_30 =>
      intro i li fg fp fc fs fk fh H locs ls hi dk dh hlt hP hD hS hl
      have dki := dk i (Nat.lt_succ_self i)
      refine lv_iload_n hx hb dX7_layRuns_30 rfl (lv_at hl 1 rfl) ?_
      refine lv_sipush (v := 300) hx hb dX7_layRuns_31 (by decide) ?_
      refine lv_icmp_ge (tgt := 168) hx hb dX7_layRuns_34 (by decide) (fun c_34 => ?_) (fun c_34 => ?_)
      · have hge := zn_le (a := 300) c_34 (by decide) (by omega)
        have ei : i = 300 := by omega
        subst ei
        have hq := hret  (li, fg, fp, fc, fs, fk, fh) H locs 168 ls
        dsimp only at hq
        exact hq (⟨dk, dh⟩) hP hD hS dX7_layRuns_168
      · have hik : i < 300 := zn_nle (a := 300) c_34 (by omega)
        refine lv_aload_n hx hb dX7_layRuns_37 rfl (lv_at hl 0 rfl) ?_
        refine lv_aload_n hx hb dX7_layRuns_38 rfl (lv_at hl 0 rfl) ?_
        refine zk_get X hE sX7_layRuns_39 hP 0 rfl rfl ?_
        refine lv_iconst (v := 4) hx hb dX7_layRuns_42 (by decide) ?_
        refine lv_iload_n hx hb dX7_layRuns_43 rfl (lv_at hl 1 rfl) ?_
        refine lv_imul hx hb dX7_layRuns_44 ?_
        refine zk_top (show (4 * (nI i) : Int32) = nI (4 * i) from pk_mul 4 i) ?_
        refine zk_ald hx hb hE hP 6 (4 * i) rfl rfl (by omega) (Nat.le_of_ble_eq_true rfl) dX7_layRuns_45 ?_
        refine zk_top (show (fk (4 * i) : Int32) = zKr sg (zpl sg) (zru sg) (zkk sg) i 0 from dki.1) ?_
        refine lv_aload_n hx hb dX7_layRuns_46 rfl (lv_at hl 0 rfl) ?_
        refine zk_get X hE sX7_layRuns_47 hP 0 rfl rfl ?_
        refine lv_iconst (v := 4) hx hb dX7_layRuns_50 (by decide) ?_
        refine lv_iload_n hx hb dX7_layRuns_51 rfl (lv_at hl 1 rfl) ?_
        refine lv_imul hx hb dX7_layRuns_52 ?_
        refine zk_top (show (4 * (nI i) : Int32) = nI (4 * i) from pk_mul 4 i) ?_
        refine lv_iconst (v := 1) hx hb dX7_layRuns_53 (by decide) ?_
        refine lv_iadd hx hb dX7_layRuns_54 ?_
        refine zk_top (show ((nI (4 * i)) + 1 : Int32) = nI ((4 * i) + 1) from nI_add (4 * i) 1) ?_
        refine zk_ald hx hb hE hP 6 ((4 * i) + 1) rfl rfl (by omega) (Nat.le_of_ble_eq_true rfl) dX7_layRuns_55 ?_
        refine zk_top (show (fk ((4 * i) + 1) : Int32) = zKr sg (zpl sg) (zru sg) (zkk sg) i 1 from dki.2.1) ?_
        refine lv_aload_n hx hb dX7_layRuns_56 rfl (lv_at hl 0 rfl) ?_
        refine zk_get X hE sX7_layRuns_57 hP 0 rfl rfl ?_
        refine lv_iconst (v := 4) hx hb dX7_layRuns_60 (by decide) ?_
        refine lv_iload_n hx hb dX7_layRuns_61 rfl (lv_at hl 1 rfl) ?_
        refine lv_imul hx hb dX7_layRuns_62 ?_
        refine zk_top (show (4 * (nI i) : Int32) = nI (4 * i) from pk_mul 4 i) ?_
        refine lv_iconst (v := 2) hx hb dX7_layRuns_63 (by decide) ?_
        refine lv_iadd hx hb dX7_layRuns_64 ?_
        refine zk_top (show ((nI (4 * i)) + 2 : Int32) = nI ((4 * i) + 2) from nI_add (4 * i) 2) ?_
        refine zk_ald hx hb hE hP 6 ((4 * i) + 2) rfl rfl (by omega) (Nat.le_of_ble_eq_true rfl) dX7_layRuns_65 ?_
        refine zk_top (show (fk ((4 * i) + 2) : Int32) = zKr sg (zpl sg) (zru sg) (zkk sg) i 2 from dki.2.2.1) ?_
        refine lv_aload_n hx hb dX7_layRuns_66 rfl (lv_at hl 0 rfl) ?_
        refine zk_get X hE sX7_layRuns_67 hP 0 rfl rfl ?_
        refine lv_iconst (v := 4) hx hb dX7_layRuns_70 (by decide) ?_
        refine lv_iload_n hx hb dX7_layRuns_71 rfl (lv_at hl 1 rfl) ?_
        refine lv_imul hx hb dX7_layRuns_72 ?_
        refine zk_top (show (4 * (nI i) : Int32) = nI (4 * i) from pk_mul 4 i) ?_
        refine lv_iconst (v := 3) hx hb dX7_layRuns_73 (by decide) ?_
        refine lv_iadd hx hb dX7_layRuns_74 ?_
        refine zk_top (show ((nI (4 * i)) + 3 : Int32) = nI ((4 * i) + 3) from nI_add (4 * i) 3) ?_
        refine zk_ald hx hb hE hP 6 ((4 * i) + 3) rfl rfl (by omega) (Nat.le_of_ble_eq_true rfl) dX7_layRuns_75 ?_
        refine zk_top (show (fk ((4 * i) + 3) : Int32) = zKr sg (zpl sg) (zru sg) (zkk sg) i 3 from dki.2.2.2) ?_
        refine zk_cVv (rest := []) (wr := [(su, .inl (cI, 4, .inl fs)), (kp, .inl (cI, 1204, .inl fk)), (hr, .inl (cI, 600, .inl fh))]) X hE hA (c_X7_goRun l D cI cZ ts mo st im iz go pt ch su kp hr li bf bc bs bt gd sg fg fp fc (zKr sg (zpl sg) (zru sg) (zkk sg) i) hsl (hsp i)) (cwV 4 hts gX7_layRuns_X7_goRun rfl rfl rfl hdX7_goRun ⟨Nat.le_of_ble_eq_true rfl, Nat.le_of_ble_eq_true rfl⟩) dX7_layRuns_76 hP hD hS [0, 1, 2, 3, 4] [5, 6, 7] ⟨rfl, rfl, rfl, rfl, rfl, trivial⟩ ⟨rfl, rfl, rfl, trivial⟩ (by decide +kernel) (by decide +kernel) (by decide +kernel) 7 rfl rfl rfl hl rfl (Nat.le_of_ble_eq_true rfl) ⟨Nat.le_of_ble_eq_true rfl, Nat.le_of_ble_eq_true rfl⟩ (fun u_76 H locs hw_76 hP hD hS => ?_)
        obtain ⟨nn_1, gg_2, gp_3, gc_4⟩ := u_76
        have hP : va_P D vwCl [(su, .inl (cI, 4, .inl fs)), (kp, .inl (cI, 1204, .inl fk)), (hr, .inl (cI, 600, .inl fh)), (mo, .inr (7, [.ref st, .ref im, .ref iz, .ref go, .int (nI nn_1), .ref pt, .ref ch, .ref su, .ref kp, .ref hr, .int bf, .int bc, .int bs, .int bt, .int gd])), (st, .inl (cI, 75, .inl sg)), (go, .inl (cI, 160, .inl gg_2)), (pt, .inl (cI, 4, .inl gp_3)), (ch, .inl (cI, 4, .inl gc_4))] H := hP
        have hD : va_D A [(su, .inl (cI, 4, .inl fs)), (kp, .inl (cI, 1204, .inl fk)), (hr, .inl (cI, 600, .inl fh)), (mo, .inr (7, [.ref st, .ref im, .ref iz, .ref go, .int (nI nn_1), .ref pt, .ref ch, .ref su, .ref kp, .ref hr, .int bf, .int bc, .int bs, .int bt, .int gd])), (st, .inl (cI, 75, .inl sg)), (go, .inl (cI, 160, .inl gg_2)), (pt, .inl (cI, 4, .inl gp_3)), (ch, .inl (cI, 4, .inl gc_4))] := hD
        obtain ⟨rfl, hw_76⟩ : nn_1 = (zN (zpl sg) (zru sg) (zch sg (zKr sg (zpl sg) (zru sg) (zkk sg) i))) ∧ zgn (zpl sg) (zru sg) (zch sg (zKr sg (zpl sg) (zru sg) (zkk sg) i)) gg_2 nn_1 ∧ zar gp_3 (zP (zpl sg) (zru sg) (zch sg (zKr sg (zpl sg) (zru sg) (zkk sg) i)) nn_1) 4 ∧ zar gc_4 (zch sg (zKr sg (zpl sg) (zru sg) (zkk sg) i)) 4 := hw_76
        refine lv_aload_n hx hb dX7_layRuns_79 rfl (lv_at hl 0 rfl) ?_
        refine lv_aload_n hx hb dX7_layRuns_80 rfl (lv_at hl 0 rfl) ?_
        refine zk_get X hE sX7_layRuns_81 hP 3 rfl rfl ?_
        refine lv_bipush (v := 15) hx hb dX7_layRuns_84 (by decide) ?_
        refine zk_ald hx hb hE hP 4 15 rfl rfl (Nat.le_of_ble_eq_true rfl) (Nat.le_of_ble_eq_true rfl) dX7_layRuns_86 ?_
        refine zk_top (show (sg 15 : Int32) = nI (zfo (zru sg)) from hfo) ?_
        refine lv_aload_n hx hb dX7_layRuns_87 rfl (lv_at hl 0 rfl) ?_
        refine zk_get X hE sX7_layRuns_88 hP 3 rfl rfl ?_
        refine lv_bipush (v := 16) hx hb dX7_layRuns_91 (by decide) ?_
        refine zk_ald hx hb hE hP 4 16 rfl rfl (Nat.le_of_ble_eq_true rfl) (Nat.le_of_ble_eq_true rfl) dX7_layRuns_93 ?_
        refine zk_cVv (rest := []) (wr := [(kp, .inl (cI, 1204, .inl fk)), (hr, .inl (cI, 600, .inl fh)), (st, .inl (cI, 75, .inl sg)), (pt, .inl (cI, 4, .inl gp_3)), (ch, .inl (cI, 4, .inl gc_4))]) X hE hA (c_X7_sumHeart l D cI cZ ts mo st im iz go pt ch su kp hr bf bc bs bt gd gg_2 fs (zN (zpl sg) (zru sg) (zch sg (zKr sg (zpl sg) (zru sg) (zkk sg) i))) (zfo (zru sg)) (sg 16) (zN_le _ _ _) hf31) (cwV 2 hts gX7_layRuns_X7_sumHeart rfl rfl rfl hdX7_sumHeart ⟨Nat.le_of_ble_eq_true rfl, Nat.le_of_ble_eq_true rfl⟩) dX7_layRuns_94 hP hD hS [3, 5, 0] [1, 2, 4, 6, 7] ⟨rfl, rfl, rfl, trivial⟩ ⟨rfl, rfl, rfl, rfl, rfl, trivial⟩ (by decide +kernel) (by decide +kernel) (by decide +kernel) 7 rfl rfl rfl hl rfl (Nat.le_of_ble_eq_true rfl) ⟨Nat.le_of_ble_eq_true rfl, Nat.le_of_ble_eq_true rfl⟩ (fun u_94 H locs hw_94 hP hD hS => ?_)
        obtain ⟨ft_5, rfl⟩ : ∃ z, z = u_94 := ⟨_, rfl⟩
        have hP : va_P D vwCl [(kp, .inl (cI, 1204, .inl fk)), (hr, .inl (cI, 600, .inl fh)), (st, .inl (cI, 75, .inl sg)), (pt, .inl (cI, 4, .inl gp_3)), (ch, .inl (cI, 4, .inl gc_4)), (mo, .inr (7, [.ref st, .ref im, .ref iz, .ref go, .int (nI (zN (zpl sg) (zru sg) (zch sg (zKr sg (zpl sg) (zru sg) (zkk sg) i)))), .ref pt, .ref ch, .ref su, .ref kp, .ref hr, .int bf, .int bc, .int bs, .int bt, .int gd])), (go, .inl (cI, 160, .inl gg_2)), (su, .inl (cI, 4, .inl ft_5))] H := hP
        have hD : va_D A [(kp, .inl (cI, 1204, .inl fk)), (hr, .inl (cI, 600, .inl fh)), (st, .inl (cI, 75, .inl sg)), (pt, .inl (cI, 4, .inl gp_3)), (ch, .inl (cI, 4, .inl gc_4)), (mo, .inr (7, [.ref st, .ref im, .ref iz, .ref go, .int (nI (zN (zpl sg) (zru sg) (zch sg (zKr sg (zpl sg) (zru sg) (zkk sg) i)))), .ref pt, .ref ch, .ref su, .ref kp, .ref hr, .int bf, .int bc, .int bs, .int bt, .int gd])), (go, .inl (cI, 160, .inl gg_2)), (su, .inl (cI, 4, .inl ft_5))] := hD
        have hw_94 : zar ft_5 (fun t => zG (zcm gg_2 t) (min (zfo (zru sg)) (zN (zpl sg) (zru sg) (zch sg (zKr sg (zpl sg) (zru sg) (zkk sg) i)))) (zT (fun j => gg_2 (4 * j)) (zN (zpl sg) (zru sg) (zch sg (zKr sg (zpl sg) (zru sg) (zkk sg) i))) (zfo (zru sg)) (sg 16))) 4 := hw_94
        have hdh := zhs_s dh (v0 := ft_5 0) (v1 := ft_5 1) ((hw_94 0 (by decide)).trans (zheart_run (by decide) hw_76.1)) ((hw_94 1 (by decide)).trans (zheart_run (by decide) hw_76.1))
        refine lv_aload_n hx hb dX7_layRuns_97 rfl (lv_at hl 0 rfl) ?_
        refine zk_get X hE sX7_layRuns_98 hP 5 rfl rfl ?_
        refine lv_iconst (v := 2) hx hb dX7_layRuns_101 (by decide) ?_
        refine lv_iload_n hx hb dX7_layRuns_102 rfl (lv_at hl 1 rfl) ?_
        refine lv_imul hx hb dX7_layRuns_103 ?_
        refine zk_top (show (2 * (nI i) : Int32) = nI (2 * i) from pk_mul 2 i) ?_
        refine lv_aload_n hx hb dX7_layRuns_104 rfl (lv_at hl 0 rfl) ?_
        refine zk_get X hE sX7_layRuns_105 hP 5 rfl rfl ?_
        refine lv_iconst (v := 0) hx hb dX7_layRuns_108 (by decide) ?_
        refine zk_ald hx hb hE hP 7 0 rfl rfl (Nat.le_of_ble_eq_true rfl) (Nat.le_of_ble_eq_true rfl) dX7_layRuns_109 ?_
        refine zk_ast (ws' := [(kp, .inl (cI, 1204, .inl fk)), (hr, .inl (cI, 600, .inl (upd fh (2 * i) (ft_5 0)))), (st, .inl (cI, 75, .inl sg)), (pt, .inl (cI, 4, .inl gp_3)), (ch, .inl (cI, 4, .inl gc_4)), (mo, .inr (7, [.ref st, .ref im, .ref iz, .ref go, .int (nI (zN (zpl sg) (zru sg) (zch sg (zKr sg (zpl sg) (zru sg) (zkk sg) i)))), .ref pt, .ref ch, .ref su, .ref kp, .ref hr, .int bf, .int bc, .int bs, .int bt, .int gd])), (go, .inl (cI, 160, .inl gg_2)), (su, .inl (cI, 4, .inl ft_5))]) hx hb hE hP hD hS 1 (2 * i) rfl rfl (by omega) (Nat.le_of_ble_eq_true rfl) dX7_layRuns_110 rfl (fun H locs hP hD hS => ?_)
        refine lv_aload_n hx hb dX7_layRuns_111 rfl (lv_at hl 0 rfl) ?_
        refine zk_get X hE sX7_layRuns_112 hP 5 rfl rfl ?_
        refine lv_iconst (v := 2) hx hb dX7_layRuns_115 (by decide) ?_
        refine lv_iload_n hx hb dX7_layRuns_116 rfl (lv_at hl 1 rfl) ?_
        refine lv_imul hx hb dX7_layRuns_117 ?_
        refine zk_top (show (2 * (nI i) : Int32) = nI (2 * i) from pk_mul 2 i) ?_
        refine lv_iconst (v := 1) hx hb dX7_layRuns_118 (by decide) ?_
        refine lv_iadd hx hb dX7_layRuns_119 ?_
        refine zk_top (show ((nI (2 * i)) + 1 : Int32) = nI ((2 * i) + 1) from nI_add (2 * i) 1) ?_
        refine lv_aload_n hx hb dX7_layRuns_120 rfl (lv_at hl 0 rfl) ?_
        refine zk_get X hE sX7_layRuns_121 hP 5 rfl rfl ?_
        refine lv_iconst (v := 1) hx hb dX7_layRuns_124 (by decide) ?_
        refine zk_ald hx hb hE hP 7 1 rfl rfl (Nat.le_of_ble_eq_true rfl) (Nat.le_of_ble_eq_true rfl) dX7_layRuns_125 ?_
        refine zk_ast (ws' := [(kp, .inl (cI, 1204, .inl fk)), (hr, .inl (cI, 600, .inl (upd (upd fh (2 * i) (ft_5 0)) ((2 * i) + 1) (ft_5 1)))), (st, .inl (cI, 75, .inl sg)), (pt, .inl (cI, 4, .inl gp_3)), (ch, .inl (cI, 4, .inl gc_4)), (mo, .inr (7, [.ref st, .ref im, .ref iz, .ref go, .int (nI (zN (zpl sg) (zru sg) (zch sg (zKr sg (zpl sg) (zru sg) (zkk sg) i)))), .ref pt, .ref ch, .ref su, .ref kp, .ref hr, .int bf, .int bc, .int bs, .int bt, .int gd])), (go, .inl (cI, 160, .inl gg_2)), (su, .inl (cI, 4, .inl ft_5))]) hx hb hE hP hD hS 1 ((2 * i) + 1) rfl rfl (by omega) (Nat.le_of_ble_eq_true rfl) dX7_layRuns_126 rfl (fun H locs hP hD hS => ?_)
        refine lv_aload_n hx hb dX7_layRuns_127 rfl (lv_at hl 0 rfl) ?_
        refine zk_cVv (rest := []) (wr := [(kp, .inl (cI, 1204, .inl fk)), (hr, .inl (cI, 600, .inl (upd (upd fh (2 * i) (ft_5 0)) ((2 * i) + 1) (ft_5 1)))), (pt, .inl (cI, 4, .inl gp_3)), (ch, .inl (cI, 4, .inl gc_4))]) X hE hA (c_X7_sumKept l D cI cZ ts mo st im iz go pt ch su kp hr bf bc bs bt gd sg gg_2 ft_5 (zN (zpl sg) (zru sg) (zch sg (zKr sg (zpl sg) (zru sg) (zkk sg) i))) (zfo (zru sg)) (zN_le _ _ _) hfo hf31) (cwV 0 hts gX7_layRuns_X7_sumKept rfl rfl rfl hdX7_sumKept ⟨Nat.le_of_ble_eq_true rfl, Nat.le_of_ble_eq_true rfl⟩) dX7_layRuns_128 hP hD hS [5, 2, 6, 7] [0, 1, 3, 4] ⟨rfl, rfl, rfl, rfl, trivial⟩ ⟨rfl, rfl, rfl, rfl, trivial⟩ (by decide +kernel) (by decide +kernel) (by decide +kernel) 7 rfl rfl rfl hl rfl (Nat.le_of_ble_eq_true rfl) ⟨Nat.le_of_ble_eq_true rfl, Nat.le_of_ble_eq_true rfl⟩ (fun u_128 H locs hw_128 hP hD hS => ?_)
        obtain ⟨ft_6, rfl⟩ : ∃ z, z = u_128 := ⟨_, rfl⟩
        have hP : va_P D vwCl [(kp, .inl (cI, 1204, .inl fk)), (hr, .inl (cI, 600, .inl (upd (upd fh (2 * i) (ft_5 0)) ((2 * i) + 1) (ft_5 1)))), (pt, .inl (cI, 4, .inl gp_3)), (ch, .inl (cI, 4, .inl gc_4)), (mo, .inr (7, [.ref st, .ref im, .ref iz, .ref go, .int (nI (zN (zpl sg) (zru sg) (zch sg (zKr sg (zpl sg) (zru sg) (zkk sg) i)))), .ref pt, .ref ch, .ref su, .ref kp, .ref hr, .int bf, .int bc, .int bs, .int bt, .int gd])), (st, .inl (cI, 75, .inl sg)), (go, .inl (cI, 160, .inl gg_2)), (su, .inl (cI, 4, .inl ft_6))] H := hP
        have hD : va_D A [(kp, .inl (cI, 1204, .inl fk)), (hr, .inl (cI, 600, .inl (upd (upd fh (2 * i) (ft_5 0)) ((2 * i) + 1) (ft_5 1)))), (pt, .inl (cI, 4, .inl gp_3)), (ch, .inl (cI, 4, .inl gc_4)), (mo, .inr (7, [.ref st, .ref im, .ref iz, .ref go, .int (nI (zN (zpl sg) (zru sg) (zch sg (zKr sg (zpl sg) (zru sg) (zkk sg) i)))), .ref pt, .ref ch, .ref su, .ref kp, .ref hr, .int bf, .int bc, .int bs, .int bt, .int gd])), (st, .inl (cI, 75, .inl sg)), (go, .inl (cI, 160, .inl gg_2)), (su, .inl (cI, 4, .inl ft_6))] := hD
        have hw_128 : zar ft_6 (fun t => zG (zcm gg_2 t) 0 (min (zfo (zru sg)) (zN (zpl sg) (zru sg) (zch sg (zKr sg (zpl sg) (zru sg) (zkk sg) i)))) + zG (zcm gg_2 t) (zT (fun j => gg_2 (4 * j)) (zN (zpl sg) (zru sg) (zch sg (zKr sg (zpl sg) (zru sg) (zkk sg) i))) (zfo (zru sg)) (sg 16)) (zN (zpl sg) (zru sg) (zch sg (zKr sg (zpl sg) (zru sg) (zkk sg) i)))) 4 := hw_128
        have hdk := zks_s dk (v0 := ft_6 0) (v1 := ft_6 1) (v2 := ft_6 2) (v3 := ft_6 3) ((hw_128 0 (by decide)).trans (zkeep_run (by decide) hw_76.1)) ((hw_128 1 (by decide)).trans (zkeep_run (by decide) hw_76.1)) ((hw_128 2 (by decide)).trans (zkeep_run (by decide) hw_76.1)) ((hw_128 3 (by decide)).trans (zkeep_run (by decide) hw_76.1))
        refine lv_iconst (v := 0) hx hb dX7_layRuns_131 (by decide) ?_
        refine lv_istore_n (lv' := [(2, .int 0), (0, .ref mo), (1, .int (nI i))]) hx hb dX7_layRuns_132 rfl hl (by decide) rfl (fun ls hl => ?_)
        refine lv_iload_n hx hb dX7_layRuns_133 rfl (lv_at hl 0 rfl) ?_
        refine lv_iconst (v := 4) hx hb dX7_layRuns_134 (by decide) ?_
        refine lv_icmp_ge (tgt := 162) hx hb dX7_layRuns_135 (by decide) (fun c_135 => absurd c_135 (by decide)) (fun c_135 => ?_)
        refine lv_aload_n hx hb dX7_layRuns_138 rfl (lv_at hl 1 rfl) ?_
        refine zk_get X hE sX7_layRuns_139 hP 4 rfl rfl ?_
        refine lv_iconst (v := 4) hx hb dX7_layRuns_142 (by decide) ?_
        refine lv_iload_n hx hb dX7_layRuns_143 rfl (lv_at hl 2 rfl) ?_
        refine lv_imul hx hb dX7_layRuns_144 ?_
        refine zk_top (show (4 * (nI i) : Int32) = nI (4 * i) from pk_mul 4 i) ?_
        refine lv_iconst (v := 4) hx hb dX7_layRuns_145 (by decide) ?_
        refine lv_iadd hx hb dX7_layRuns_146 ?_
        refine zk_top (show ((nI (4 * i)) + 4 : Int32) = nI ((4 * i) + 4) from nI_add (4 * i) 4) ?_
        refine lv_iload_n hx hb dX7_layRuns_147 rfl (lv_at hl 0 rfl) ?_
        refine lv_iadd hx hb dX7_layRuns_148 ?_
        refine zk_top (show ((nI ((4 * i) + 4)) + 0 : Int32) = nI (((4 * i) + 4) + 0) from nI_add ((4 * i) + 4) 0) ?_
        refine lv_aload_n hx hb dX7_layRuns_149 rfl (lv_at hl 1 rfl) ?_
        refine zk_get X hE sX7_layRuns_150 hP 4 rfl rfl ?_
        refine lv_iload_n hx hb dX7_layRuns_153 rfl (lv_at hl 0 rfl) ?_
        refine zk_ald hx hb hE hP 7 0 rfl rfl (Nat.le_of_ble_eq_true rfl) (Nat.le_of_ble_eq_true rfl) dX7_layRuns_154 ?_
        refine zk_ast (ws' := [(kp, .inl (cI, 1204, .inl (upd fk (((4 * i) + 4) + 0) (ft_6 0)))), (hr, .inl (cI, 600, .inl (upd (upd fh (2 * i) (ft_5 0)) ((2 * i) + 1) (ft_5 1)))), (pt, .inl (cI, 4, .inl gp_3)), (ch, .inl (cI, 4, .inl gc_4)), (mo, .inr (7, [.ref st, .ref im, .ref iz, .ref go, .int (nI (zN (zpl sg) (zru sg) (zch sg (zKr sg (zpl sg) (zru sg) (zkk sg) i)))), .ref pt, .ref ch, .ref su, .ref kp, .ref hr, .int bf, .int bc, .int bs, .int bt, .int gd])), (st, .inl (cI, 75, .inl sg)), (go, .inl (cI, 160, .inl gg_2)), (su, .inl (cI, 4, .inl ft_6))]) hx hb hE hP hD hS 0 (((4 * i) + 4) + 0) rfl rfl (by omega) (Nat.le_of_ble_eq_true rfl) dX7_layRuns_155 rfl (fun H locs hP hD hS => ?_)
        refine lv_iinc (v := 1) (lv' := [(2, .int 1), (0, .ref mo), (1, .int (nI i))]) hx hb dX7_layRuns_156 hl (k := 0) rfl (by decide) (by decide) rfl (fun ls hl => ?_)
        refine lv_goto (tgt := 133) hx hb dX7_layRuns_159 (by decide) ?_
        refine lv_iload_n hx hb dX7_layRuns_133 rfl (lv_at hl 0 rfl) ?_
        refine lv_iconst (v := 4) hx hb dX7_layRuns_134 (by decide) ?_
        refine lv_icmp_ge (tgt := 162) hx hb dX7_layRuns_135 (by decide) (fun c_135 => absurd c_135 (by decide)) (fun c_135 => ?_)
        refine lv_aload_n hx hb dX7_layRuns_138 rfl (lv_at hl 1 rfl) ?_
        refine zk_get X hE sX7_layRuns_139 hP 4 rfl rfl ?_
        refine lv_iconst (v := 4) hx hb dX7_layRuns_142 (by decide) ?_
        refine lv_iload_n hx hb dX7_layRuns_143 rfl (lv_at hl 2 rfl) ?_
        refine lv_imul hx hb dX7_layRuns_144 ?_
        refine zk_top (show (4 * (nI i) : Int32) = nI (4 * i) from pk_mul 4 i) ?_
        refine lv_iconst (v := 4) hx hb dX7_layRuns_145 (by decide) ?_
        refine lv_iadd hx hb dX7_layRuns_146 ?_
        refine zk_top (show ((nI (4 * i)) + 4 : Int32) = nI ((4 * i) + 4) from nI_add (4 * i) 4) ?_
        refine lv_iload_n hx hb dX7_layRuns_147 rfl (lv_at hl 0 rfl) ?_
        refine lv_iadd hx hb dX7_layRuns_148 ?_
        refine zk_top (show ((nI ((4 * i) + 4)) + 1 : Int32) = nI (((4 * i) + 4) + 1) from nI_add ((4 * i) + 4) 1) ?_
        refine lv_aload_n hx hb dX7_layRuns_149 rfl (lv_at hl 1 rfl) ?_
        refine zk_get X hE sX7_layRuns_150 hP 4 rfl rfl ?_
        refine lv_iload_n hx hb dX7_layRuns_153 rfl (lv_at hl 0 rfl) ?_
        refine zk_ald hx hb hE hP 7 1 rfl rfl (Nat.le_of_ble_eq_true rfl) (Nat.le_of_ble_eq_true rfl) dX7_layRuns_154 ?_
        refine zk_ast (ws' := [(kp, .inl (cI, 1204, .inl (upd (upd fk (((4 * i) + 4) + 0) (ft_6 0)) (((4 * i) + 4) + 1) (ft_6 1)))), (hr, .inl (cI, 600, .inl (upd (upd fh (2 * i) (ft_5 0)) ((2 * i) + 1) (ft_5 1)))), (pt, .inl (cI, 4, .inl gp_3)), (ch, .inl (cI, 4, .inl gc_4)), (mo, .inr (7, [.ref st, .ref im, .ref iz, .ref go, .int (nI (zN (zpl sg) (zru sg) (zch sg (zKr sg (zpl sg) (zru sg) (zkk sg) i)))), .ref pt, .ref ch, .ref su, .ref kp, .ref hr, .int bf, .int bc, .int bs, .int bt, .int gd])), (st, .inl (cI, 75, .inl sg)), (go, .inl (cI, 160, .inl gg_2)), (su, .inl (cI, 4, .inl ft_6))]) hx hb hE hP hD hS 0 (((4 * i) + 4) + 1) rfl rfl (by omega) (Nat.le_of_ble_eq_true rfl) dX7_layRuns_155 rfl (fun H locs hP hD hS => ?_)
        refine lv_iinc (v := 2) (lv' := [(2, .int 2), (0, .ref mo), (1, .int (nI i))]) hx hb dX7_layRuns_156 hl (k := 0) rfl (by decide) (by decide) rfl (fun ls hl => ?_)
        refine lv_goto (tgt := 133) hx hb dX7_layRuns_159 (by decide) ?_
        refine lv_iload_n hx hb dX7_layRuns_133 rfl (lv_at hl 0 rfl) ?_
        refine lv_iconst (v := 4) hx hb dX7_layRuns_134 (by decide) ?_
        refine lv_icmp_ge (tgt := 162) hx hb dX7_layRuns_135 (by decide) (fun c_135 => absurd c_135 (by decide)) (fun c_135 => ?_)
        refine lv_aload_n hx hb dX7_layRuns_138 rfl (lv_at hl 1 rfl) ?_
        refine zk_get X hE sX7_layRuns_139 hP 4 rfl rfl ?_
        refine lv_iconst (v := 4) hx hb dX7_layRuns_142 (by decide) ?_
        refine lv_iload_n hx hb dX7_layRuns_143 rfl (lv_at hl 2 rfl) ?_
        refine lv_imul hx hb dX7_layRuns_144 ?_
        refine zk_top (show (4 * (nI i) : Int32) = nI (4 * i) from pk_mul 4 i) ?_
        refine lv_iconst (v := 4) hx hb dX7_layRuns_145 (by decide) ?_
        refine lv_iadd hx hb dX7_layRuns_146 ?_
        refine zk_top (show ((nI (4 * i)) + 4 : Int32) = nI ((4 * i) + 4) from nI_add (4 * i) 4) ?_
        refine lv_iload_n hx hb dX7_layRuns_147 rfl (lv_at hl 0 rfl) ?_
        refine lv_iadd hx hb dX7_layRuns_148 ?_
        refine zk_top (show ((nI ((4 * i) + 4)) + 2 : Int32) = nI (((4 * i) + 4) + 2) from nI_add ((4 * i) + 4) 2) ?_
        refine lv_aload_n hx hb dX7_layRuns_149 rfl (lv_at hl 1 rfl) ?_
        refine zk_get X hE sX7_layRuns_150 hP 4 rfl rfl ?_
        refine lv_iload_n hx hb dX7_layRuns_153 rfl (lv_at hl 0 rfl) ?_
        refine zk_ald hx hb hE hP 7 2 rfl rfl (Nat.le_of_ble_eq_true rfl) (Nat.le_of_ble_eq_true rfl) dX7_layRuns_154 ?_
        refine zk_ast (ws' := [(kp, .inl (cI, 1204, .inl (upd (upd (upd fk (((4 * i) + 4) + 0) (ft_6 0)) (((4 * i) + 4) + 1) (ft_6 1)) (((4 * i) + 4) + 2) (ft_6 2)))), (hr, .inl (cI, 600, .inl (upd (upd fh (2 * i) (ft_5 0)) ((2 * i) + 1) (ft_5 1)))), (pt, .inl (cI, 4, .inl gp_3)), (ch, .inl (cI, 4, .inl gc_4)), (mo, .inr (7, [.ref st, .ref im, .ref iz, .ref go, .int (nI (zN (zpl sg) (zru sg) (zch sg (zKr sg (zpl sg) (zru sg) (zkk sg) i)))), .ref pt, .ref ch, .ref su, .ref kp, .ref hr, .int bf, .int bc, .int bs, .int bt, .int gd])), (st, .inl (cI, 75, .inl sg)), (go, .inl (cI, 160, .inl gg_2)), (su, .inl (cI, 4, .inl ft_6))]) hx hb hE hP hD hS 0 (((4 * i) + 4) + 2) rfl rfl (by omega) (Nat.le_of_ble_eq_true rfl) dX7_layRuns_155 rfl (fun H locs hP hD hS => ?_)
        refine lv_iinc (v := 3) (lv' := [(2, .int 3), (0, .ref mo), (1, .int (nI i))]) hx hb dX7_layRuns_156 hl (k := 0) rfl (by decide) (by decide) rfl (fun ls hl => ?_)
        refine lv_goto (tgt := 133) hx hb dX7_layRuns_159 (by decide) ?_
        refine lv_iload_n hx hb dX7_layRuns_133 rfl (lv_at hl 0 rfl) ?_
        refine lv_iconst (v := 4) hx hb dX7_layRuns_134 (by decide) ?_
        refine lv_icmp_ge (tgt := 162) hx hb dX7_layRuns_135 (by decide) (fun c_135 => absurd c_135 (by decide)) (fun c_135 => ?_)
        refine lv_aload_n hx hb dX7_layRuns_138 rfl (lv_at hl 1 rfl) ?_
        refine zk_get X hE sX7_layRuns_139 hP 4 rfl rfl ?_
        refine lv_iconst (v := 4) hx hb dX7_layRuns_142 (by decide) ?_
        refine lv_iload_n hx hb dX7_layRuns_143 rfl (lv_at hl 2 rfl) ?_
        refine lv_imul hx hb dX7_layRuns_144 ?_
        refine zk_top (show (4 * (nI i) : Int32) = nI (4 * i) from pk_mul 4 i) ?_
        refine lv_iconst (v := 4) hx hb dX7_layRuns_145 (by decide) ?_
        refine lv_iadd hx hb dX7_layRuns_146 ?_
        refine zk_top (show ((nI (4 * i)) + 4 : Int32) = nI ((4 * i) + 4) from nI_add (4 * i) 4) ?_
        refine lv_iload_n hx hb dX7_layRuns_147 rfl (lv_at hl 0 rfl) ?_
        refine lv_iadd hx hb dX7_layRuns_148 ?_
        refine zk_top (show ((nI ((4 * i) + 4)) + 3 : Int32) = nI (((4 * i) + 4) + 3) from nI_add ((4 * i) + 4) 3) ?_
        refine lv_aload_n hx hb dX7_layRuns_149 rfl (lv_at hl 1 rfl) ?_
        refine zk_get X hE sX7_layRuns_150 hP 4 rfl rfl ?_
        refine lv_iload_n hx hb dX7_layRuns_153 rfl (lv_at hl 0 rfl) ?_
        refine zk_ald hx hb hE hP 7 3 rfl rfl (Nat.le_of_ble_eq_true rfl) (Nat.le_of_ble_eq_true rfl) dX7_layRuns_154 ?_
        refine zk_ast (ws' := [(kp, .inl (cI, 1204, .inl (upd (upd (upd (upd fk (((4 * i) + 4) + 0) (ft_6 0)) (((4 * i) + 4) + 1) (ft_6 1)) (((4 * i) + 4) + 2) (ft_6 2)) (((4 * i) + 4) + 3) (ft_6 3)))), (hr, .inl (cI, 600, .inl (upd (upd fh (2 * i) (ft_5 0)) ((2 * i) + 1) (ft_5 1)))), (pt, .inl (cI, 4, .inl gp_3)), (ch, .inl (cI, 4, .inl gc_4)), (mo, .inr (7, [.ref st, .ref im, .ref iz, .ref go, .int (nI (zN (zpl sg) (zru sg) (zch sg (zKr sg (zpl sg) (zru sg) (zkk sg) i)))), .ref pt, .ref ch, .ref su, .ref kp, .ref hr, .int bf, .int bc, .int bs, .int bt, .int gd])), (st, .inl (cI, 75, .inl sg)), (go, .inl (cI, 160, .inl gg_2)), (su, .inl (cI, 4, .inl ft_6))]) hx hb hE hP hD hS 0 (((4 * i) + 4) + 3) rfl rfl (by omega) (Nat.le_of_ble_eq_true rfl) dX7_layRuns_155 rfl (fun H locs hP hD hS => ?_)
        refine lv_iinc (v := 4) (lv' := [(2, .int 4), (0, .ref mo), (1, .int (nI i))]) hx hb dX7_layRuns_156 hl (k := 0) rfl (by decide) (by decide) rfl (fun ls hl => ?_)
        refine lv_goto (tgt := 133) hx hb dX7_layRuns_159 (by decide) ?_
        refine lv_iload_n hx hb dX7_layRuns_133 rfl (lv_at hl 0 rfl) ?_
        refine lv_iconst (v := 4) hx hb dX7_layRuns_134 (by decide) ?_
        refine lv_icmp_ge (tgt := 162) hx hb dX7_layRuns_135 (by decide) (fun c_135 => ?_) (fun c_135 => absurd c_135 (by decide))
        refine lv_iinc (v := nI (i + 1)) (lv' := [(1, .int (nI (i + 1))), (2, .int 4), (0, .ref mo)]) hx hb dX7_layRuns_162 hl (k := 2) rfl (zk_inc i) (by decide) rfl (fun ls hl => ?_)
        refine lv_goto (tgt := 30) hx hb dX7_layRuns_165 (by decide) ?_
        exact ih_30 (i + 1) (nI (zN (zpl sg) (zru sg) (zch sg (zKr sg (zpl sg) (zru sg) (zkk sg) i)))) gg_2 gp_3 gc_4 ft_6 (upd (upd (upd (upd fk (((4 * i) + 4) + 0) (ft_6 0)) (((4 * i) + 4) + 1) (ft_6 1)) (((4 * i) + 4) + 2) (ft_6 2)) (((4 * i) + 4) + 3) (ft_6 3)) (upd (upd fh (2 * i) (ft_5 0)) ((2 * i) + 1) (ft_5 1)) H locs ls (by omega) hdk hdh (by omega) (zk_subP hP [4, 5, 6, 2, 3, 7, 0, 1] ⟨rfl, rfl, rfl, rfl, rfl, rfl, rfl, rfl, trivial⟩) (zk_subD hD [4, 5, 6, 2, 3, 7, 0, 1] (by decide +kernel) ⟨rfl, rfl, rfl, rfl, rfl, rfl, rfl, rfl, trivial⟩) hS (lv_sub hl [2, 0] rfl)
  exact L_30 _ 0 li fg fp fc fs (upd (upd (upd (upd fk 0 (sg 21)) 1 (sg 22)) 2 (sg 23)) 3 (sg 24)) fh H locs ls (Nat.zero_le _) (zks_1 rfl rfl rfl rfl) (fun r h => absurd h (Nat.not_lt_zero _)) (Nat.lt_succ_self _) hP hD hS (lv_sub hl [1, 0] rfl)
set_option maxHeartbeats 4000000 in
set_option maxRecDepth 100000 in
theorem c_X7_areAlike (l : Launch) (D : va_G) (cI cZ : ClassId) (ts : Nat → Nat) (mo : Nat) (st : Nat) (im : Nat) (iz : Nat) (go : Nat) (pt : Nat) (ch : Nat) (su : Nat) (kp : Nat) (hr : Nat) (li : Int32) (bf : Int32) (bc : Int32) (bs : Int32) (bt : Int32) (gd : Int32) (fk : Nat → Int32) (aa : Nat) (bb : Nat) (ha : aa ≤ 300) (hb1 : bb ≤ 300) : zk_Mi l yX7_areAlike wsX7_areAlike ({ frames := 0, cells := 0, slots := 0, locals := 0 } : Room) D cI cZ ts [.ref mo, .int (nI aa), .int (nI bb)] [(mo, .inr (7, [.ref st, .ref im, .ref iz, .ref go, .int li, .ref pt, .ref ch, .ref su, .ref kp, .ref hr, .int bf, .int bc, .int bs, .int bt, .int gd])), (kp, .inl (cI, 1204, .inl fk))] (fun (r : Int32) (_ : Unit) => ((r = 1 ∧ zal fk aa bb) ∨ (r = 0 ∧ ¬ zal fk aa bb))) (fun (_ : Unit) => [(mo, .inr (7, [.ref st, .ref im, .ref iz, .ref go, .int li, .ref pt, .ref ch, .ref su, .ref kp, .ref hr, .int bf, .int bc, .int bs, .int bt, .int gd])), (kp, .inl (cI, 1204, .inl fk))]) 0 0 := by
  refine zk_Mi.ofZ (cc := cX7_areAlike) (maxL := 5) RX7 (by decide) rfl (Nat.le_of_ble_eq_true rfl) rfl ?_
  intro p e s m below meth c A Q H locs ls X hE hA hP hD hS hret hl
  obtain ⟨hx, hb, hml, hown, hts⟩ := id X
  have hl : lv_has ls 5 [(0, .ref mo), (1, .int (nI aa)), (2, .int (nI bb))] := hl
  refine lv_iconst (v := 1) hx hb dX7_areAlike_0 (by decide) ?_
  refine lv_istore_n (lv' := [(3, .int 1), (0, .ref mo), (1, .int (nI aa)), (2, .int (nI bb))]) hx hb dX7_areAlike_1 rfl hl (by decide) rfl (fun ls hl => ?_)
  refine lv_iconst (v := 0) hx hb dX7_areAlike_2 (by decide) ?_
  refine lv_istore (lv' := [(4, .int 0), (3, .int 1), (0, .ref mo), (1, .int (nI aa)), (2, .int (nI bb))]) hx hb dX7_areAlike_3 hl (by decide) rfl (fun ls hl => ?_)
  refine lv_iload hx hb dX7_areAlike_5 (lv_at hl 0 rfl) ?_
  refine lv_iconst (v := 4) hx hb dX7_areAlike_7 (by decide) ?_
  refine lv_icmp_ge (tgt := 52) hx hb dX7_areAlike_8 (by decide) (fun c_8 => absurd c_8 (by decide)) (fun c_8 => ?_)
  refine lv_iload_n hx hb dX7_areAlike_11 rfl (lv_at hl 1 rfl) ?_
  refine lv_if_eq (tgt := 44) hx hb dX7_areAlike_12 (by decide) (fun c_12 => absurd c_12 (by decide)) (fun c_12 => ?_)
  refine lv_aload_n hx hb dX7_areAlike_15 rfl (lv_at hl 2 rfl) ?_
  refine zk_get X hE sX7_areAlike_16 hP 0 rfl rfl ?_
  refine lv_iconst (v := 4) hx hb dX7_areAlike_19 (by decide) ?_
  refine lv_iload_n hx hb dX7_areAlike_20 rfl (lv_at hl 3 rfl) ?_
  refine lv_imul hx hb dX7_areAlike_21 ?_
  refine zk_top (show (4 * (nI aa) : Int32) = nI (4 * aa) from pk_mul 4 aa) ?_
  refine lv_iload hx hb dX7_areAlike_22 (lv_at hl 0 rfl) ?_
  refine lv_iadd hx hb dX7_areAlike_24 ?_
  refine zk_top (show ((nI (4 * aa)) + 0 : Int32) = nI ((4 * aa) + 0) from nI_add (4 * aa) 0) ?_
  refine zk_ald hx hb hE hP 1 ((4 * aa) + 0) rfl rfl (by omega) (Nat.le_of_ble_eq_true rfl) dX7_areAlike_25 ?_
  refine lv_aload_n hx hb dX7_areAlike_26 rfl (lv_at hl 2 rfl) ?_
  refine zk_get X hE sX7_areAlike_27 hP 0 rfl rfl ?_
  refine lv_iconst (v := 4) hx hb dX7_areAlike_30 (by decide) ?_
  refine lv_iload_n hx hb dX7_areAlike_31 rfl (lv_at hl 4 rfl) ?_
  refine lv_imul hx hb dX7_areAlike_32 ?_
  refine zk_top (show (4 * (nI bb) : Int32) = nI (4 * bb) from pk_mul 4 bb) ?_
  refine lv_iload hx hb dX7_areAlike_33 (lv_at hl 0 rfl) ?_
  refine lv_iadd hx hb dX7_areAlike_35 ?_
  refine zk_top (show ((nI (4 * bb)) + 0 : Int32) = nI ((4 * bb) + 0) from nI_add (4 * bb) 0) ?_
  refine zk_ald hx hb hE hP 1 ((4 * bb) + 0) rfl rfl (by omega) (Nat.le_of_ble_eq_true rfl) dX7_areAlike_36 ?_
  refine lv_icmp_ne (tgt := 44) hx hb dX7_areAlike_37 (by decide) (fun c_37 => ?_) (fun c_37 => ?_)
  · refine lv_iconst (v := 0) hx hb dX7_areAlike_44 (by decide) ?_
    refine lv_istore_n (lv' := [(3, .int 0), (4, .int 0), (0, .ref mo), (1, .int (nI aa)), (2, .int (nI bb))]) hx hb dX7_areAlike_45 rfl hl (by decide) rfl (fun ls hl => ?_)
    refine lv_iinc (v := 1) (lv' := [(4, .int 1), (3, .int 0), (0, .ref mo), (1, .int (nI aa)), (2, .int (nI bb))]) hx hb dX7_areAlike_46 hl (k := 1) rfl (by decide) (by decide) rfl (fun ls hl => ?_)
    refine lv_goto (tgt := 5) hx hb dX7_areAlike_49 (by decide) ?_
    refine lv_iload hx hb dX7_areAlike_5 (lv_at hl 0 rfl) ?_
    refine lv_iconst (v := 4) hx hb dX7_areAlike_7 (by decide) ?_
    refine lv_icmp_ge (tgt := 52) hx hb dX7_areAlike_8 (by decide) (fun c_8 => absurd c_8 (by decide)) (fun c_8 => ?_)
    refine lv_iload_n hx hb dX7_areAlike_11 rfl (lv_at hl 1 rfl) ?_
    refine lv_if_eq (tgt := 44) hx hb dX7_areAlike_12 (by decide) (fun c_12 => ?_) (fun c_12 => absurd c_12 (by decide))
    refine lv_iconst (v := 0) hx hb dX7_areAlike_44 (by decide) ?_
    refine lv_istore_n (lv' := [(3, .int 0), (4, .int 1), (0, .ref mo), (1, .int (nI aa)), (2, .int (nI bb))]) hx hb dX7_areAlike_45 rfl hl (by decide) rfl (fun ls hl => ?_)
    refine lv_iinc (v := 2) (lv' := [(4, .int 2), (3, .int 0), (0, .ref mo), (1, .int (nI aa)), (2, .int (nI bb))]) hx hb dX7_areAlike_46 hl (k := 1) rfl (by decide) (by decide) rfl (fun ls hl => ?_)
    refine lv_goto (tgt := 5) hx hb dX7_areAlike_49 (by decide) ?_
    refine lv_iload hx hb dX7_areAlike_5 (lv_at hl 0 rfl) ?_
    refine lv_iconst (v := 4) hx hb dX7_areAlike_7 (by decide) ?_
    refine lv_icmp_ge (tgt := 52) hx hb dX7_areAlike_8 (by decide) (fun c_8 => absurd c_8 (by decide)) (fun c_8 => ?_)
    refine lv_iload_n hx hb dX7_areAlike_11 rfl (lv_at hl 1 rfl) ?_
    refine lv_if_eq (tgt := 44) hx hb dX7_areAlike_12 (by decide) (fun c_12 => ?_) (fun c_12 => absurd c_12 (by decide))
    refine lv_iconst (v := 0) hx hb dX7_areAlike_44 (by decide) ?_
    refine lv_istore_n (lv' := [(3, .int 0), (4, .int 2), (0, .ref mo), (1, .int (nI aa)), (2, .int (nI bb))]) hx hb dX7_areAlike_45 rfl hl (by decide) rfl (fun ls hl => ?_)
    refine lv_iinc (v := 3) (lv' := [(4, .int 3), (3, .int 0), (0, .ref mo), (1, .int (nI aa)), (2, .int (nI bb))]) hx hb dX7_areAlike_46 hl (k := 1) rfl (by decide) (by decide) rfl (fun ls hl => ?_)
    refine lv_goto (tgt := 5) hx hb dX7_areAlike_49 (by decide) ?_
    refine lv_iload hx hb dX7_areAlike_5 (lv_at hl 0 rfl) ?_
    refine lv_iconst (v := 4) hx hb dX7_areAlike_7 (by decide) ?_
    refine lv_icmp_ge (tgt := 52) hx hb dX7_areAlike_8 (by decide) (fun c_8 => absurd c_8 (by decide)) (fun c_8 => ?_)
    refine lv_iload_n hx hb dX7_areAlike_11 rfl (lv_at hl 1 rfl) ?_
    refine lv_if_eq (tgt := 44) hx hb dX7_areAlike_12 (by decide) (fun c_12 => ?_) (fun c_12 => absurd c_12 (by decide))
    refine lv_iconst (v := 0) hx hb dX7_areAlike_44 (by decide) ?_
    refine lv_istore_n (lv' := [(3, .int 0), (4, .int 3), (0, .ref mo), (1, .int (nI aa)), (2, .int (nI bb))]) hx hb dX7_areAlike_45 rfl hl (by decide) rfl (fun ls hl => ?_)
    refine lv_iinc (v := 4) (lv' := [(4, .int 4), (3, .int 0), (0, .ref mo), (1, .int (nI aa)), (2, .int (nI bb))]) hx hb dX7_areAlike_46 hl (k := 1) rfl (by decide) (by decide) rfl (fun ls hl => ?_)
    refine lv_goto (tgt := 5) hx hb dX7_areAlike_49 (by decide) ?_
    refine lv_iload hx hb dX7_areAlike_5 (lv_at hl 0 rfl) ?_
    refine lv_iconst (v := 4) hx hb dX7_areAlike_7 (by decide) ?_
    refine lv_icmp_ge (tgt := 52) hx hb dX7_areAlike_8 (by decide) (fun c_8 => ?_) (fun c_8 => absurd c_8 (by decide))
    refine lv_iload_n hx hb dX7_areAlike_52 rfl (lv_at hl 1 rfl) ?_
    exact hret 0 () H locs 53 ls (by first | rfl | decide) (by first | exact Or.inl ⟨rfl, ⟨k_0, k_1, k_2, k_3⟩⟩ | exact Or.inr ⟨rfl, fun q => absurd q.1 c_37⟩ | exact Or.inr ⟨rfl, fun q => absurd q.2.1 c_37⟩ | exact Or.inr ⟨rfl, fun q => absurd q.2.2.1 c_37⟩ | exact Or.inr ⟨rfl, fun q => absurd q.2.2.2 c_37⟩) hP hD hS dX7_areAlike_53
  · have k_0 := c_37
    refine lv_iconst (v := 1) hx hb dX7_areAlike_40 (by decide) ?_
    refine lv_goto (tgt := 45) hx hb dX7_areAlike_41 (by decide) ?_
    refine lv_istore_n (lv' := [(3, .int 1), (4, .int 0), (0, .ref mo), (1, .int (nI aa)), (2, .int (nI bb))]) hx hb dX7_areAlike_45 rfl hl (by decide) rfl (fun ls hl => ?_)
    refine lv_iinc (v := 1) (lv' := [(4, .int 1), (3, .int 1), (0, .ref mo), (1, .int (nI aa)), (2, .int (nI bb))]) hx hb dX7_areAlike_46 hl (k := 1) rfl (by decide) (by decide) rfl (fun ls hl => ?_)
    refine lv_goto (tgt := 5) hx hb dX7_areAlike_49 (by decide) ?_
    refine lv_iload hx hb dX7_areAlike_5 (lv_at hl 0 rfl) ?_
    refine lv_iconst (v := 4) hx hb dX7_areAlike_7 (by decide) ?_
    refine lv_icmp_ge (tgt := 52) hx hb dX7_areAlike_8 (by decide) (fun c_8 => absurd c_8 (by decide)) (fun c_8 => ?_)
    refine lv_iload_n hx hb dX7_areAlike_11 rfl (lv_at hl 1 rfl) ?_
    refine lv_if_eq (tgt := 44) hx hb dX7_areAlike_12 (by decide) (fun c_12 => absurd c_12 (by decide)) (fun c_12 => ?_)
    refine lv_aload_n hx hb dX7_areAlike_15 rfl (lv_at hl 2 rfl) ?_
    refine zk_get X hE sX7_areAlike_16 hP 0 rfl rfl ?_
    refine lv_iconst (v := 4) hx hb dX7_areAlike_19 (by decide) ?_
    refine lv_iload_n hx hb dX7_areAlike_20 rfl (lv_at hl 3 rfl) ?_
    refine lv_imul hx hb dX7_areAlike_21 ?_
    refine zk_top (show (4 * (nI aa) : Int32) = nI (4 * aa) from pk_mul 4 aa) ?_
    refine lv_iload hx hb dX7_areAlike_22 (lv_at hl 0 rfl) ?_
    refine lv_iadd hx hb dX7_areAlike_24 ?_
    refine zk_top (show ((nI (4 * aa)) + 1 : Int32) = nI ((4 * aa) + 1) from nI_add (4 * aa) 1) ?_
    refine zk_ald hx hb hE hP 1 ((4 * aa) + 1) rfl rfl (by omega) (Nat.le_of_ble_eq_true rfl) dX7_areAlike_25 ?_
    refine lv_aload_n hx hb dX7_areAlike_26 rfl (lv_at hl 2 rfl) ?_
    refine zk_get X hE sX7_areAlike_27 hP 0 rfl rfl ?_
    refine lv_iconst (v := 4) hx hb dX7_areAlike_30 (by decide) ?_
    refine lv_iload_n hx hb dX7_areAlike_31 rfl (lv_at hl 4 rfl) ?_
    refine lv_imul hx hb dX7_areAlike_32 ?_
    refine zk_top (show (4 * (nI bb) : Int32) = nI (4 * bb) from pk_mul 4 bb) ?_
    refine lv_iload hx hb dX7_areAlike_33 (lv_at hl 0 rfl) ?_
    refine lv_iadd hx hb dX7_areAlike_35 ?_
    refine zk_top (show ((nI (4 * bb)) + 1 : Int32) = nI ((4 * bb) + 1) from nI_add (4 * bb) 1) ?_
    refine zk_ald hx hb hE hP 1 ((4 * bb) + 1) rfl rfl (by omega) (Nat.le_of_ble_eq_true rfl) dX7_areAlike_36 ?_
    refine lv_icmp_ne (tgt := 44) hx hb dX7_areAlike_37 (by decide) (fun c_37 => ?_) (fun c_37 => ?_)
    · refine lv_iconst (v := 0) hx hb dX7_areAlike_44 (by decide) ?_
      refine lv_istore_n (lv' := [(3, .int 0), (4, .int 1), (0, .ref mo), (1, .int (nI aa)), (2, .int (nI bb))]) hx hb dX7_areAlike_45 rfl hl (by decide) rfl (fun ls hl => ?_)
      refine lv_iinc (v := 2) (lv' := [(4, .int 2), (3, .int 0), (0, .ref mo), (1, .int (nI aa)), (2, .int (nI bb))]) hx hb dX7_areAlike_46 hl (k := 1) rfl (by decide) (by decide) rfl (fun ls hl => ?_)
      refine lv_goto (tgt := 5) hx hb dX7_areAlike_49 (by decide) ?_
      refine lv_iload hx hb dX7_areAlike_5 (lv_at hl 0 rfl) ?_
      refine lv_iconst (v := 4) hx hb dX7_areAlike_7 (by decide) ?_
      refine lv_icmp_ge (tgt := 52) hx hb dX7_areAlike_8 (by decide) (fun c_8 => absurd c_8 (by decide)) (fun c_8 => ?_)
      refine lv_iload_n hx hb dX7_areAlike_11 rfl (lv_at hl 1 rfl) ?_
      refine lv_if_eq (tgt := 44) hx hb dX7_areAlike_12 (by decide) (fun c_12 => ?_) (fun c_12 => absurd c_12 (by decide))
      refine lv_iconst (v := 0) hx hb dX7_areAlike_44 (by decide) ?_
      refine lv_istore_n (lv' := [(3, .int 0), (4, .int 2), (0, .ref mo), (1, .int (nI aa)), (2, .int (nI bb))]) hx hb dX7_areAlike_45 rfl hl (by decide) rfl (fun ls hl => ?_)
      refine lv_iinc (v := 3) (lv' := [(4, .int 3), (3, .int 0), (0, .ref mo), (1, .int (nI aa)), (2, .int (nI bb))]) hx hb dX7_areAlike_46 hl (k := 1) rfl (by decide) (by decide) rfl (fun ls hl => ?_)
      refine lv_goto (tgt := 5) hx hb dX7_areAlike_49 (by decide) ?_
      refine lv_iload hx hb dX7_areAlike_5 (lv_at hl 0 rfl) ?_
      refine lv_iconst (v := 4) hx hb dX7_areAlike_7 (by decide) ?_
      refine lv_icmp_ge (tgt := 52) hx hb dX7_areAlike_8 (by decide) (fun c_8 => absurd c_8 (by decide)) (fun c_8 => ?_)
      refine lv_iload_n hx hb dX7_areAlike_11 rfl (lv_at hl 1 rfl) ?_
      refine lv_if_eq (tgt := 44) hx hb dX7_areAlike_12 (by decide) (fun c_12 => ?_) (fun c_12 => absurd c_12 (by decide))
      refine lv_iconst (v := 0) hx hb dX7_areAlike_44 (by decide) ?_
      refine lv_istore_n (lv' := [(3, .int 0), (4, .int 3), (0, .ref mo), (1, .int (nI aa)), (2, .int (nI bb))]) hx hb dX7_areAlike_45 rfl hl (by decide) rfl (fun ls hl => ?_)
      refine lv_iinc (v := 4) (lv' := [(4, .int 4), (3, .int 0), (0, .ref mo), (1, .int (nI aa)), (2, .int (nI bb))]) hx hb dX7_areAlike_46 hl (k := 1) rfl (by decide) (by decide) rfl (fun ls hl => ?_)
      refine lv_goto (tgt := 5) hx hb dX7_areAlike_49 (by decide) ?_
      refine lv_iload hx hb dX7_areAlike_5 (lv_at hl 0 rfl) ?_
      refine lv_iconst (v := 4) hx hb dX7_areAlike_7 (by decide) ?_
      refine lv_icmp_ge (tgt := 52) hx hb dX7_areAlike_8 (by decide) (fun c_8 => ?_) (fun c_8 => absurd c_8 (by decide))
      refine lv_iload_n hx hb dX7_areAlike_52 rfl (lv_at hl 1 rfl) ?_
      exact hret 0 () H locs 53 ls (by first | rfl | decide) (by first | exact Or.inl ⟨rfl, ⟨k_0, k_1, k_2, k_3⟩⟩ | exact Or.inr ⟨rfl, fun q => absurd q.1 c_37⟩ | exact Or.inr ⟨rfl, fun q => absurd q.2.1 c_37⟩ | exact Or.inr ⟨rfl, fun q => absurd q.2.2.1 c_37⟩ | exact Or.inr ⟨rfl, fun q => absurd q.2.2.2 c_37⟩) hP hD hS dX7_areAlike_53
    · have k_1 := c_37
      refine lv_iconst (v := 1) hx hb dX7_areAlike_40 (by decide) ?_
      refine lv_goto (tgt := 45) hx hb dX7_areAlike_41 (by decide) ?_
      refine lv_istore_n (lv' := [(3, .int 1), (4, .int 1), (0, .ref mo), (1, .int (nI aa)), (2, .int (nI bb))]) hx hb dX7_areAlike_45 rfl hl (by decide) rfl (fun ls hl => ?_)
      refine lv_iinc (v := 2) (lv' := [(4, .int 2), (3, .int 1), (0, .ref mo), (1, .int (nI aa)), (2, .int (nI bb))]) hx hb dX7_areAlike_46 hl (k := 1) rfl (by decide) (by decide) rfl (fun ls hl => ?_)
      refine lv_goto (tgt := 5) hx hb dX7_areAlike_49 (by decide) ?_
      refine lv_iload hx hb dX7_areAlike_5 (lv_at hl 0 rfl) ?_
      refine lv_iconst (v := 4) hx hb dX7_areAlike_7 (by decide) ?_
      refine lv_icmp_ge (tgt := 52) hx hb dX7_areAlike_8 (by decide) (fun c_8 => absurd c_8 (by decide)) (fun c_8 => ?_)
      refine lv_iload_n hx hb dX7_areAlike_11 rfl (lv_at hl 1 rfl) ?_
      refine lv_if_eq (tgt := 44) hx hb dX7_areAlike_12 (by decide) (fun c_12 => absurd c_12 (by decide)) (fun c_12 => ?_)
      refine lv_aload_n hx hb dX7_areAlike_15 rfl (lv_at hl 2 rfl) ?_
      refine zk_get X hE sX7_areAlike_16 hP 0 rfl rfl ?_
      refine lv_iconst (v := 4) hx hb dX7_areAlike_19 (by decide) ?_
      refine lv_iload_n hx hb dX7_areAlike_20 rfl (lv_at hl 3 rfl) ?_
      refine lv_imul hx hb dX7_areAlike_21 ?_
      refine zk_top (show (4 * (nI aa) : Int32) = nI (4 * aa) from pk_mul 4 aa) ?_
      refine lv_iload hx hb dX7_areAlike_22 (lv_at hl 0 rfl) ?_
      refine lv_iadd hx hb dX7_areAlike_24 ?_
      refine zk_top (show ((nI (4 * aa)) + 2 : Int32) = nI ((4 * aa) + 2) from nI_add (4 * aa) 2) ?_
      refine zk_ald hx hb hE hP 1 ((4 * aa) + 2) rfl rfl (by omega) (Nat.le_of_ble_eq_true rfl) dX7_areAlike_25 ?_
      refine lv_aload_n hx hb dX7_areAlike_26 rfl (lv_at hl 2 rfl) ?_
      refine zk_get X hE sX7_areAlike_27 hP 0 rfl rfl ?_
      refine lv_iconst (v := 4) hx hb dX7_areAlike_30 (by decide) ?_
      refine lv_iload_n hx hb dX7_areAlike_31 rfl (lv_at hl 4 rfl) ?_
      refine lv_imul hx hb dX7_areAlike_32 ?_
      refine zk_top (show (4 * (nI bb) : Int32) = nI (4 * bb) from pk_mul 4 bb) ?_
      refine lv_iload hx hb dX7_areAlike_33 (lv_at hl 0 rfl) ?_
      refine lv_iadd hx hb dX7_areAlike_35 ?_
      refine zk_top (show ((nI (4 * bb)) + 2 : Int32) = nI ((4 * bb) + 2) from nI_add (4 * bb) 2) ?_
      refine zk_ald hx hb hE hP 1 ((4 * bb) + 2) rfl rfl (by omega) (Nat.le_of_ble_eq_true rfl) dX7_areAlike_36 ?_
      refine lv_icmp_ne (tgt := 44) hx hb dX7_areAlike_37 (by decide) (fun c_37 => ?_) (fun c_37 => ?_)
      · refine lv_iconst (v := 0) hx hb dX7_areAlike_44 (by decide) ?_
        refine lv_istore_n (lv' := [(3, .int 0), (4, .int 2), (0, .ref mo), (1, .int (nI aa)), (2, .int (nI bb))]) hx hb dX7_areAlike_45 rfl hl (by decide) rfl (fun ls hl => ?_)
        refine lv_iinc (v := 3) (lv' := [(4, .int 3), (3, .int 0), (0, .ref mo), (1, .int (nI aa)), (2, .int (nI bb))]) hx hb dX7_areAlike_46 hl (k := 1) rfl (by decide) (by decide) rfl (fun ls hl => ?_)
        refine lv_goto (tgt := 5) hx hb dX7_areAlike_49 (by decide) ?_
        refine lv_iload hx hb dX7_areAlike_5 (lv_at hl 0 rfl) ?_
        refine lv_iconst (v := 4) hx hb dX7_areAlike_7 (by decide) ?_
        refine lv_icmp_ge (tgt := 52) hx hb dX7_areAlike_8 (by decide) (fun c_8 => absurd c_8 (by decide)) (fun c_8 => ?_)
        refine lv_iload_n hx hb dX7_areAlike_11 rfl (lv_at hl 1 rfl) ?_
        refine lv_if_eq (tgt := 44) hx hb dX7_areAlike_12 (by decide) (fun c_12 => ?_) (fun c_12 => absurd c_12 (by decide))
        refine lv_iconst (v := 0) hx hb dX7_areAlike_44 (by decide) ?_
        refine lv_istore_n (lv' := [(3, .int 0), (4, .int 3), (0, .ref mo), (1, .int (nI aa)), (2, .int (nI bb))]) hx hb dX7_areAlike_45 rfl hl (by decide) rfl (fun ls hl => ?_)
        refine lv_iinc (v := 4) (lv' := [(4, .int 4), (3, .int 0), (0, .ref mo), (1, .int (nI aa)), (2, .int (nI bb))]) hx hb dX7_areAlike_46 hl (k := 1) rfl (by decide) (by decide) rfl (fun ls hl => ?_)
        refine lv_goto (tgt := 5) hx hb dX7_areAlike_49 (by decide) ?_
        refine lv_iload hx hb dX7_areAlike_5 (lv_at hl 0 rfl) ?_
        refine lv_iconst (v := 4) hx hb dX7_areAlike_7 (by decide) ?_
        refine lv_icmp_ge (tgt := 52) hx hb dX7_areAlike_8 (by decide) (fun c_8 => ?_) (fun c_8 => absurd c_8 (by decide))
        refine lv_iload_n hx hb dX7_areAlike_52 rfl (lv_at hl 1 rfl) ?_
        exact hret 0 () H locs 53 ls (by first | rfl | decide) (by first | exact Or.inl ⟨rfl, ⟨k_0, k_1, k_2, k_3⟩⟩ | exact Or.inr ⟨rfl, fun q => absurd q.1 c_37⟩ | exact Or.inr ⟨rfl, fun q => absurd q.2.1 c_37⟩ | exact Or.inr ⟨rfl, fun q => absurd q.2.2.1 c_37⟩ | exact Or.inr ⟨rfl, fun q => absurd q.2.2.2 c_37⟩) hP hD hS dX7_areAlike_53
      · have k_2 := c_37
        refine lv_iconst (v := 1) hx hb dX7_areAlike_40 (by decide) ?_
        refine lv_goto (tgt := 45) hx hb dX7_areAlike_41 (by decide) ?_
        refine lv_istore_n (lv' := [(3, .int 1), (4, .int 2), (0, .ref mo), (1, .int (nI aa)), (2, .int (nI bb))]) hx hb dX7_areAlike_45 rfl hl (by decide) rfl (fun ls hl => ?_)
        refine lv_iinc (v := 3) (lv' := [(4, .int 3), (3, .int 1), (0, .ref mo), (1, .int (nI aa)), (2, .int (nI bb))]) hx hb dX7_areAlike_46 hl (k := 1) rfl (by decide) (by decide) rfl (fun ls hl => ?_)
        refine lv_goto (tgt := 5) hx hb dX7_areAlike_49 (by decide) ?_
        refine lv_iload hx hb dX7_areAlike_5 (lv_at hl 0 rfl) ?_
        refine lv_iconst (v := 4) hx hb dX7_areAlike_7 (by decide) ?_
        refine lv_icmp_ge (tgt := 52) hx hb dX7_areAlike_8 (by decide) (fun c_8 => absurd c_8 (by decide)) (fun c_8 => ?_)
        refine lv_iload_n hx hb dX7_areAlike_11 rfl (lv_at hl 1 rfl) ?_
        refine lv_if_eq (tgt := 44) hx hb dX7_areAlike_12 (by decide) (fun c_12 => absurd c_12 (by decide)) (fun c_12 => ?_)
        refine lv_aload_n hx hb dX7_areAlike_15 rfl (lv_at hl 2 rfl) ?_
        refine zk_get X hE sX7_areAlike_16 hP 0 rfl rfl ?_
        refine lv_iconst (v := 4) hx hb dX7_areAlike_19 (by decide) ?_
        refine lv_iload_n hx hb dX7_areAlike_20 rfl (lv_at hl 3 rfl) ?_
        refine lv_imul hx hb dX7_areAlike_21 ?_
        refine zk_top (show (4 * (nI aa) : Int32) = nI (4 * aa) from pk_mul 4 aa) ?_
        refine lv_iload hx hb dX7_areAlike_22 (lv_at hl 0 rfl) ?_
        refine lv_iadd hx hb dX7_areAlike_24 ?_
        refine zk_top (show ((nI (4 * aa)) + 3 : Int32) = nI ((4 * aa) + 3) from nI_add (4 * aa) 3) ?_
        refine zk_ald hx hb hE hP 1 ((4 * aa) + 3) rfl rfl (by omega) (Nat.le_of_ble_eq_true rfl) dX7_areAlike_25 ?_
        refine lv_aload_n hx hb dX7_areAlike_26 rfl (lv_at hl 2 rfl) ?_
        refine zk_get X hE sX7_areAlike_27 hP 0 rfl rfl ?_
        refine lv_iconst (v := 4) hx hb dX7_areAlike_30 (by decide) ?_
        refine lv_iload_n hx hb dX7_areAlike_31 rfl (lv_at hl 4 rfl) ?_
        refine lv_imul hx hb dX7_areAlike_32 ?_
        refine zk_top (show (4 * (nI bb) : Int32) = nI (4 * bb) from pk_mul 4 bb) ?_
        refine lv_iload hx hb dX7_areAlike_33 (lv_at hl 0 rfl) ?_
        refine lv_iadd hx hb dX7_areAlike_35 ?_
        refine zk_top (show ((nI (4 * bb)) + 3 : Int32) = nI ((4 * bb) + 3) from nI_add (4 * bb) 3) ?_
        refine zk_ald hx hb hE hP 1 ((4 * bb) + 3) rfl rfl (by omega) (Nat.le_of_ble_eq_true rfl) dX7_areAlike_36 ?_
        refine lv_icmp_ne (tgt := 44) hx hb dX7_areAlike_37 (by decide) (fun c_37 => ?_) (fun c_37 => ?_)
        · refine lv_iconst (v := 0) hx hb dX7_areAlike_44 (by decide) ?_
          refine lv_istore_n (lv' := [(3, .int 0), (4, .int 3), (0, .ref mo), (1, .int (nI aa)), (2, .int (nI bb))]) hx hb dX7_areAlike_45 rfl hl (by decide) rfl (fun ls hl => ?_)
          refine lv_iinc (v := 4) (lv' := [(4, .int 4), (3, .int 0), (0, .ref mo), (1, .int (nI aa)), (2, .int (nI bb))]) hx hb dX7_areAlike_46 hl (k := 1) rfl (by decide) (by decide) rfl (fun ls hl => ?_)
          refine lv_goto (tgt := 5) hx hb dX7_areAlike_49 (by decide) ?_
          refine lv_iload hx hb dX7_areAlike_5 (lv_at hl 0 rfl) ?_
          refine lv_iconst (v := 4) hx hb dX7_areAlike_7 (by decide) ?_
          refine lv_icmp_ge (tgt := 52) hx hb dX7_areAlike_8 (by decide) (fun c_8 => ?_) (fun c_8 => absurd c_8 (by decide))
          refine lv_iload_n hx hb dX7_areAlike_52 rfl (lv_at hl 1 rfl) ?_
          exact hret 0 () H locs 53 ls (by first | rfl | decide) (by first | exact Or.inl ⟨rfl, ⟨k_0, k_1, k_2, k_3⟩⟩ | exact Or.inr ⟨rfl, fun q => absurd q.1 c_37⟩ | exact Or.inr ⟨rfl, fun q => absurd q.2.1 c_37⟩ | exact Or.inr ⟨rfl, fun q => absurd q.2.2.1 c_37⟩ | exact Or.inr ⟨rfl, fun q => absurd q.2.2.2 c_37⟩) hP hD hS dX7_areAlike_53
        · have k_3 := c_37
          refine lv_iconst (v := 1) hx hb dX7_areAlike_40 (by decide) ?_
          refine lv_goto (tgt := 45) hx hb dX7_areAlike_41 (by decide) ?_
          refine lv_istore_n (lv' := [(3, .int 1), (4, .int 3), (0, .ref mo), (1, .int (nI aa)), (2, .int (nI bb))]) hx hb dX7_areAlike_45 rfl hl (by decide) rfl (fun ls hl => ?_)
          refine lv_iinc (v := 4) (lv' := [(4, .int 4), (3, .int 1), (0, .ref mo), (1, .int (nI aa)), (2, .int (nI bb))]) hx hb dX7_areAlike_46 hl (k := 1) rfl (by decide) (by decide) rfl (fun ls hl => ?_)
          refine lv_goto (tgt := 5) hx hb dX7_areAlike_49 (by decide) ?_
          refine lv_iload hx hb dX7_areAlike_5 (lv_at hl 0 rfl) ?_
          refine lv_iconst (v := 4) hx hb dX7_areAlike_7 (by decide) ?_
          refine lv_icmp_ge (tgt := 52) hx hb dX7_areAlike_8 (by decide) (fun c_8 => ?_) (fun c_8 => absurd c_8 (by decide))
          refine lv_iload_n hx hb dX7_areAlike_52 rfl (lv_at hl 1 rfl) ?_
          exact hret 1 () H locs 53 ls (by first | rfl | decide) (by first | exact Or.inl ⟨rfl, ⟨k_0, k_1, k_2, k_3⟩⟩ | exact Or.inr ⟨rfl, fun q => absurd q.1 c_37⟩ | exact Or.inr ⟨rfl, fun q => absurd q.2.1 c_37⟩ | exact Or.inr ⟨rfl, fun q => absurd q.2.2.1 c_37⟩ | exact Or.inr ⟨rfl, fun q => absurd q.2.2.2 c_37⟩) hP hD hS dX7_areAlike_53
set_option maxHeartbeats 4000000 in
set_option maxRecDepth 100000 in
theorem c_X7_earlier (l : Launch) (D : va_G) (cI cZ : ClassId) (ts : Nat → Nat) (mo : Nat) (st : Nat) (im : Nat) (iz : Nat) (go : Nat) (pt : Nat) (ch : Nat) (su : Nat) (kp : Nat) (hr : Nat) (li : Int32) (bf : Int32) (bc : Int32) (bs : Int32) (bt : Int32) (gd : Int32) (fk : Nat → Int32) (R : Nat) (hR : R ≤ 300) : zk_Mi l yX7_earlier wsX7_earlier ({ frames := 1, cells := 0, slots := 0, locals := 24 } : Room) D cI cZ ts [.ref mo, .int (nI R)] [(mo, .inr (7, [.ref st, .ref im, .ref iz, .ref go, .int li, .ref pt, .ref ch, .ref su, .ref kp, .ref hr, .int bf, .int bc, .int bs, .int bt, .int gd])), (kp, .inl (cI, 1204, .inl fk))] (fun (r : Int32) (_ : Unit) => ((∃ j9, j9 < R ∧ r = nI j9 ∧ zal fk j9 R ∧ ∀ d9, d9 < j9 → ¬ zal fk d9 R) ∨ (r = (-6) ∧ ∀ d9, d9 < R → ¬ zal fk d9 R))) (fun (_ : Unit) => [(mo, .inr (7, [.ref st, .ref im, .ref iz, .ref go, .int li, .ref pt, .ref ch, .ref su, .ref kp, .ref hr, .int bf, .int bc, .int bs, .int bt, .int gd])), (kp, .inl (cI, 1204, .inl fk))]) 0 0 := by
  refine zk_Mi.of (cc := cX7_earlier) (maxL := 3) RX7 (by decide) rfl (Nat.le_of_ble_eq_true rfl) rfl ?_
  intro p e s m below meth c A Q H locs ls X hE hA hP hD hS hret hl
  obtain ⟨hx, hb, hml, hown, hts⟩ := id X
  have hl : lv_has ls 3 [(0, .ref mo), (1, .int (nI R))] := hl
  refine lv_iconst (v := 0) hx hb dX7_earlier_0 (by decide) ?_
  refine lv_istore_n (lv' := [(2, .int 0), (0, .ref mo), (1, .int (nI R))]) hx hb dX7_earlier_1 rfl hl (by decide) rfl (fun ls hl => ?_)
  have L_2 : ∀ (n : Nat) (i : Nat) (H : Heap) (locs : List Loc) (ls : Array Slot), (i ≤ R) → (∀ j, j < i → ¬ zal fk j R) → R - i < n → va_P D vwCl [(mo, .inr (7, [.ref st, .ref im, .ref iz, .ref go, .int li, .ref pt, .ref ch, .ref su, .ref kp, .ref hr, .int bf, .int bc, .int bs, .int bt, .int gd])), (kp, .inl (cI, 1204, .inl fk))] H → va_D A [(mo, .inr (7, [.ref st, .ref im, .ref iz, .ref go, .int li, .ref pt, .ref ch, .ref su, .ref kp, .ref hr, .int bf, .int bc, .int bs, .int bt, .int gd])), (kp, .inl (cI, 1204, .inl fk))] → va_S A s.heap H locs → lv_has ls 3 [(0, .ref mo), (1, .int (nI R)), (2, .int (nI i))] → W p l e ({ frames := 1, cells := 0, slots := 0, locals := 24 } : Room) s m ([.ref mo, .int (nI R)] : List Value).toArray below meth c H locs 0 0 Q (F0 m 2 ls []) := by
    intro n
    induction n with
    | zero =>
      intro i H locs ls hi hz hlt hP hD hS hl
      exact absurd hlt (Nat.not_lt_zero _)
    | succ n ih_2 =>
      intro i H locs ls hi hz hlt hP hD hS hl
      refine lv_iload_n hx hb dX7_earlier_2 rfl (lv_at hl 2 rfl) ?_
      refine lv_iload_n hx hb dX7_earlier_3 rfl (lv_at hl 1 rfl) ?_
      refine lv_icmp_ge (tgt := 24) hx hb dX7_earlier_4 (by decide) (fun c_4 => ?_) (fun c_4 => ?_)
      · have hge := zn_le c_4 (by omega) (by omega)
        refine lv_bipush (v := (-6)) hx hb dX7_earlier_24 (by decide) ?_
        exact hret (-6) () H locs 26 ls (Or.inr ⟨rfl, fun j hj => hz j (by omega)⟩) hP hD hS dX7_earlier_26
      · have hik : i < R := zn_nle c_4 (by omega)
        refine lv_aload_n hx hb dX7_earlier_7 rfl (lv_at hl 0 rfl) ?_
        refine lv_iload_n hx hb dX7_earlier_8 rfl (lv_at hl 2 rfl) ?_
        refine lv_iload_n hx hb dX7_earlier_9 rfl (lv_at hl 1 rfl) ?_
        refine zk_cVi (rest := []) (wr := []) X hE hA (c_X7_areAlike l D cI cZ ts mo st im iz go pt ch su kp hr li bf bc bs bt gd fk i R (by first | assumption | omega) (by first | assumption | omega)) (cwV 2 hts gX7_earlier_X7_areAlike rfl rfl rfl hdX7_areAlike ⟨Nat.le_of_ble_eq_true rfl, Nat.le_of_ble_eq_true rfl⟩) dX7_earlier_10 hP hD hS [0, 1] [] ⟨rfl, rfl, trivial⟩ trivial (by decide +kernel) (by decide +kernel) (by decide +kernel) 7 rfl rfl rfl hl rfl (Nat.le_of_ble_eq_true rfl) ⟨Nat.le_of_ble_eq_true rfl, Nat.le_of_ble_eq_true rfl⟩ (fun r_10 _ H locs hw_10 hP hD hS => ?_)
        have hP : va_P D vwCl [(mo, .inr (7, [.ref st, .ref im, .ref iz, .ref go, .int li, .ref pt, .ref ch, .ref su, .ref kp, .ref hr, .int bf, .int bc, .int bs, .int bt, .int gd])), (kp, .inl (cI, 1204, .inl fk))] H := hP
        have hD : va_D A [(mo, .inr (7, [.ref st, .ref im, .ref iz, .ref go, .int li, .ref pt, .ref ch, .ref su, .ref kp, .ref hr, .int bf, .int bc, .int bs, .int bt, .int gd])), (kp, .inl (cI, 1204, .inl fk))] := hD
        have hw_10 : ((r_10 = 1 ∧ zal fk i R) ∨ (r_10 = 0 ∧ ¬ zal fk i R)) := hw_10
        refine lv_if_eq (tgt := 18) hx hb dX7_earlier_13 (by decide) (fun c_13 => ?_) (fun c_13 => ?_)
        · have hne : ¬ zal fk i R := by
            rcases hw_10 with ⟨q, -⟩ | ⟨-, q⟩
            · exact absurd (q.symm.trans c_13) (by decide)
            · exact q
          refine lv_iinc (v := nI (i + 1)) (lv' := [(2, .int (nI (i + 1))), (0, .ref mo), (1, .int (nI R))]) hx hb dX7_earlier_18 hl (k := 2) rfl (zk_inc i) (by decide) rfl (fun ls hl => ?_)
          refine lv_goto (tgt := 2) hx hb dX7_earlier_21 (by decide) ?_
          exact ih_2 (i + 1) H locs ls (by omega) (lt_s hz hne) (by omega) hP hD hS (lv_sub hl [1, 2, 0] rfl)
        · have hye : zal fk i R := by
            rcases hw_10 with ⟨-, q⟩ | ⟨q, -⟩
            · exact q
            · exact absurd q c_13
          refine lv_iload_n hx hb dX7_earlier_16 rfl (lv_at hl 2 rfl) ?_
          exact hret (nI i) () H locs 17 ls (Or.inl ⟨i, hik, rfl, hye, hz⟩) hP hD hS dX7_earlier_17
  exact L_2 _ 0 H locs ls (Nat.zero_le _) (fun j h => absurd h (Nat.not_lt_zero _)) (Nat.lt_succ_self _) hP hD hS (lv_sub hl [1, 2, 0] rfl)
set_option maxHeartbeats 4000000 in
set_option maxRecDepth 100000 in
theorem c_X7_heartsOf (l : Launch) (D : va_G) (cI cZ : ClassId) (ts : Nat → Nat) (mo : Nat) (st : Nat) (im : Nat) (iz : Nat) (go : Nat) (pt : Nat) (ch : Nat) (su : Nat) (kp : Nat) (hr : Nat) (li : Int32) (bf : Int32) (bc : Int32) (bs : Int32) (bt : Int32) (gd : Int32) (fh : Nat → Int32) (aa : Nat) (bb : Nat) (wq : Nat) (hab : aa ≤ bb) (hb3 : bb ≤ 300) (hw1 : wq ≤ 1) : zk_Mi l yX7_heartsOf wsX7_heartsOf ({ frames := 0, cells := 0, slots := 0, locals := 0 } : Room) D cI cZ ts [.ref mo, .int (nI aa), .int (nI bb), .int (nI wq)] [(mo, .inr (7, [.ref st, .ref im, .ref iz, .ref go, .int li, .ref pt, .ref ch, .ref su, .ref kp, .ref hr, .int bf, .int bc, .int bs, .int bt, .int gd])), (hr, .inl (cI, 600, .inl fh))] (fun (r : Int32) (_ : Unit) => r = (zG (fun j => fh (2 * j + wq)) aa bb)) (fun (_ : Unit) => [(mo, .inr (7, [.ref st, .ref im, .ref iz, .ref go, .int li, .ref pt, .ref ch, .ref su, .ref kp, .ref hr, .int bf, .int bc, .int bs, .int bt, .int gd])), (hr, .inl (cI, 600, .inl fh))]) 0 0 := by
  refine zk_Mi.of (cc := cX7_heartsOf) (maxL := 6) RX7 (by decide) rfl (Nat.le_of_ble_eq_true rfl) rfl ?_
  intro p e s m below meth c A Q H locs ls X hE hA hP hD hS hret hl
  obtain ⟨hx, hb, hml, hown, hts⟩ := id X
  have hl : lv_has ls 6 [(0, .ref mo), (1, .int (nI aa)), (2, .int (nI bb)), (3, .int (nI wq))] := hl
  refine lv_iconst (v := 0) hx hb dX7_heartsOf_0 (by decide) ?_
  refine lv_istore (lv' := [(4, .int 0), (0, .ref mo), (1, .int (nI aa)), (2, .int (nI bb)), (3, .int (nI wq))]) hx hb dX7_heartsOf_1 hl (by decide) rfl (fun ls hl => ?_)
  refine lv_iload_n hx hb dX7_heartsOf_3 rfl (lv_at hl 2 rfl) ?_
  refine lv_istore (lv' := [(5, .int (nI aa)), (4, .int 0), (0, .ref mo), (1, .int (nI aa)), (2, .int (nI bb)), (3, .int (nI wq))]) hx hb dX7_heartsOf_4 hl (by decide) rfl (fun ls hl => ?_)
  have L_6 : ∀ (n : Nat) (i : Nat) (t : Int32) (H : Heap) (locs : List Loc) (ls : Array Slot), (aa ≤ i) → (i ≤ bb) → (t = zG (fun j => fh (2 * j + wq)) aa i) → bb - i < n → va_P D vwCl [(mo, .inr (7, [.ref st, .ref im, .ref iz, .ref go, .int li, .ref pt, .ref ch, .ref su, .ref kp, .ref hr, .int bf, .int bc, .int bs, .int bt, .int gd])), (hr, .inl (cI, 600, .inl fh))] H → va_D A [(mo, .inr (7, [.ref st, .ref im, .ref iz, .ref go, .int li, .ref pt, .ref ch, .ref su, .ref kp, .ref hr, .int bf, .int bc, .int bs, .int bt, .int gd])), (hr, .inl (cI, 600, .inl fh))] → va_S A s.heap H locs → lv_has ls 6 [(0, .ref mo), (1, .int (nI aa)), (2, .int (nI bb)), (3, .int (nI wq)), (4, .int t), (5, .int (nI i))] → W p l e ({ frames := 0, cells := 0, slots := 0, locals := 0 } : Room) s m ([.ref mo, .int (nI aa), .int (nI bb), .int (nI wq)] : List Value).toArray below meth c H locs 0 0 Q (F0 m 6 ls []) := by
    intro n
    induction n with
    | zero =>
      intro i t H locs ls h1 h2 e1 hlt hP hD hS hl
      exact absurd hlt (Nat.not_lt_zero _)
    | succ n ih_6 =>
      intro i t H locs ls h1 h2 e1 hlt hP hD hS hl
      refine lv_iload hx hb dX7_heartsOf_6 (lv_at hl 5 rfl) ?_
      refine lv_iload_n hx hb dX7_heartsOf_8 rfl (lv_at hl 2 rfl) ?_
      refine lv_icmp_ge (tgt := 34) hx hb dX7_heartsOf_9 (by decide) (fun c_9 => ?_) (fun c_9 => ?_)
      · have e_i : bb = i := by have := zn_le c_9 (by omega) (by omega); omega
        subst e_i
        refine lv_iload hx hb dX7_heartsOf_34 (lv_at hl 4 rfl) ?_
        exact hret t () H locs 36 ls e1 hP hD hS dX7_heartsOf_36
      · have hik : i < bb := zn_nle c_9 (by omega)
        refine lv_iload hx hb dX7_heartsOf_12 (lv_at hl 4 rfl) ?_
        refine lv_aload_n hx hb dX7_heartsOf_14 rfl (lv_at hl 0 rfl) ?_
        refine zk_get X hE sX7_heartsOf_15 hP 0 rfl rfl ?_
        refine lv_iconst (v := 2) hx hb dX7_heartsOf_18 (by decide) ?_
        refine lv_iload hx hb dX7_heartsOf_19 (lv_at hl 5 rfl) ?_
        refine lv_imul hx hb dX7_heartsOf_21 ?_
        refine zk_top (show (2 * (nI i) : Int32) = nI (2 * i) from pk_mul 2 i) ?_
        refine lv_iload_n hx hb dX7_heartsOf_22 rfl (lv_at hl 3 rfl) ?_
        refine lv_iadd hx hb dX7_heartsOf_23 ?_
        refine zk_top (show ((nI (2 * i)) + (nI wq) : Int32) = nI ((2 * i) + wq) from nI_add (2 * i) wq) ?_
        refine zk_ald hx hb hE hP 1 ((2 * i) + wq) rfl rfl (by omega) (Nat.le_of_ble_eq_true rfl) dX7_heartsOf_24 ?_
        refine lv_iadd hx hb dX7_heartsOf_25 ?_
        refine lv_istore (lv' := [(4, .int (t + (fh ((2 * i) + wq)))), (0, .ref mo), (1, .int (nI aa)), (2, .int (nI bb)), (3, .int (nI wq)), (5, .int (nI i))]) hx hb dX7_heartsOf_26 hl (by decide) rfl (fun ls hl => ?_)
        refine lv_iinc (v := nI (i + 1)) (lv' := [(5, .int (nI (i + 1))), (4, .int (t + (fh ((2 * i) + wq)))), (0, .ref mo), (1, .int (nI aa)), (2, .int (nI bb)), (3, .int (nI wq))]) hx hb dX7_heartsOf_28 hl (k := 5) rfl (zk_inc i) (by decide) rfl (fun ls hl => ?_)
        refine lv_goto (tgt := 6) hx hb dX7_heartsOf_31 (by decide) ?_
        exact ih_6 (i + 1) (t + (fh ((2 * i) + wq))) H locs ls (by omega) (by omega) (zG_s (f := (fun j => fh (2 * j + wq))) e1) (by omega) hP hD hS (lv_sub hl [2, 3, 4, 5, 1, 0] rfl)
  exact L_6 _ aa 0 H locs ls (Nat.le_refl _) hab (zG_0 (fun j => fh (2 * j + wq)) aa) (Nat.lt_succ_self _) hP hD hS (lv_sub hl [2, 3, 4, 5, 1, 0] rfl)
set_option maxHeartbeats 4000000 in
set_option maxRecDepth 100000 in
theorem c_X7_settled (l : Launch) (D : va_G) (cI cZ : ClassId) (ts : Nat → Nat) (mo : Nat) (st : Nat) (im : Nat) (iz : Nat) (go : Nat) (pt : Nat) (ch : Nat) (su : Nat) (kp : Nat) (hr : Nat) (li : Int32) (bf : Int32) (bc : Int32) (bs : Int32) (bt : Int32) (gd : Int32) (sg : Nat → Int32) (fg : Nat → Int32) (fp : Nat → Int32) (fc : Nat → Int32) (fs : Nat → Int32) (fk : Nat → Int32) (fh : Nat → Int32) (p0 : Int32) (hsl : 1 ≤ sg 19 ∧ sg 19 ≤ 99) (hsp : ∀ r i, ¬ zP (zpl sg) (zru sg) (zch sg (zKr sg (zpl sg) (zru sg) (zkk sg) r)) i 1 < 0) (hru : ¬ sg 15 < 0) : zk_Mi l yX7_settled wsX7_settled ({ frames := 3, cells := 0, slots := 0, locals := 73 } : Room) D cI cZ ts [.ref mo, .int p0] [(mo, .inr (7, [.ref st, .ref im, .ref iz, .ref go, .int li, .ref pt, .ref ch, .ref su, .ref kp, .ref hr, .int bf, .int bc, .int bs, .int bt, .int gd])), (st, .inl (cI, 75, .inl sg)), (go, .inl (cI, 160, .inl fg)), (pt, .inl (cI, 4, .inl fp)), (ch, .inl (cI, 4, .inl fc)), (su, .inl (cI, 4, .inl fs)), (kp, .inl (cI, 1204, .inl fk)), (hr, .inl (cI, 600, .inl fh))] (fun (r : Int32) (u : Int32 × (Nat → Int32) × (Nat → Int32) × (Nat → Int32) × (Nat → Int32) × (Nat → Int32) × (Nat → Int32)) => zsettled (zKr sg (zpl sg) (zru sg) (zkk sg)) (zHs sg (zpl sg) (zru sg) (zkk sg)) p0 r) (fun (u : Int32 × (Nat → Int32) × (Nat → Int32) × (Nat → Int32) × (Nat → Int32) × (Nat → Int32) × (Nat → Int32)) => [(mo, .inr (7, [.ref st, .ref im, .ref iz, .ref go, .int u.1, .ref pt, .ref ch, .ref su, .ref kp, .ref hr, .int bf, .int bc, .int bs, .int bt, .int gd])), (st, .inl (cI, 75, .inl sg)), (go, .inl (cI, 160, .inl u.2.1)), (pt, .inl (cI, 4, .inl u.2.2.1)), (ch, .inl (cI, 4, .inl u.2.2.2.1)), (su, .inl (cI, 4, .inl u.2.2.2.2.1)), (kp, .inl (cI, 1204, .inl u.2.2.2.2.2.1)), (hr, .inl (cI, 600, .inl u.2.2.2.2.2.2))]) 0 0 := by
  refine zk_Mi.of (cc := cX7_settled) (maxL := 4) RX7 (by decide) rfl (Nat.le_of_ble_eq_true rfl) rfl ?_
  intro p e s m below meth c A Q H locs ls X hE hA hP hD hS hret hl
  obtain ⟨hx, hb, hml, hown, hts⟩ := id X
  have hl : lv_has ls 4 [(0, .ref mo), (1, .int p0)] := hl
  refine lv_iload_n hx hb dX7_settled_0 rfl (lv_at hl 1 rfl) ?_
  refine lv_iconst (v := 0) hx hb dX7_settled_1 (by decide) ?_
  refine lv_iconst (v := 3) hx hb dX7_settled_2 (by decide) ?_
  refine zk_cSi (rest := []) X hE hA (c_X7_in l D cI cZ ts p0 0 3) (cwS 3 hts gX7_settled_X7_in rfl rfl rfl hdX7_in ⟨Nat.le_of_ble_eq_true rfl, Nat.le_of_ble_eq_true rfl⟩) dX7_settled_3 hP hD hS rfl hl rfl (Nat.le_of_ble_eq_true rfl) ⟨Nat.le_of_ble_eq_true rfl, Nat.le_of_ble_eq_true rfl⟩ (fun r_3 _ H locs hw_3 hP hD hS => ?_)
  obtain rfl : r_3 = (if 0 ≤ p0 ∧ p0 ≤ 3 then 1 else 0) := hw_3
  refine lv_if_ne (tgt := 12) hx hb dX7_settled_6 (by decide) (fun c_6 => ?_) (fun c_6 => ?_)
  · have c_6 : 0 ≤ p0 ∧ p0 ≤ 3 := zk_ite1 c_6
    refine lv_aload_n hx hb dX7_settled_12 rfl (lv_at hl 0 rfl) ?_
    refine zk_cVv (rest := []) (wr := []) X hE hA (c_X7_layRuns l D cI cZ ts mo st im iz go pt ch su kp hr li bf bc bs bt gd sg fg fp fc fs fk fh (by first | assumption | omega) (by first | assumption | omega) (by first | assumption | omega)) (cwV 0 hts gX7_settled_X7_layRuns rfl rfl rfl hdX7_layRuns ⟨Nat.le_of_ble_eq_true rfl, Nat.le_of_ble_eq_true rfl⟩) dX7_settled_13 hP hD hS [0, 1, 2, 3, 4, 5, 6, 7] [] ⟨rfl, rfl, rfl, rfl, rfl, rfl, rfl, rfl, trivial⟩ trivial (by decide +kernel) (by decide +kernel) (by decide +kernel) 7 rfl rfl rfl hl rfl (Nat.le_of_ble_eq_true rfl) ⟨Nat.le_of_ble_eq_true rfl, Nat.le_of_ble_eq_true rfl⟩ (fun u_13 H locs hw_13 hP hD hS => ?_)
    obtain ⟨lj_1, gg_2, gp_3, gc_4, gs_5, gk_6, gh_7⟩ := u_13
    have hP : va_P D vwCl [(mo, .inr (7, [.ref st, .ref im, .ref iz, .ref go, .int lj_1, .ref pt, .ref ch, .ref su, .ref kp, .ref hr, .int bf, .int bc, .int bs, .int bt, .int gd])), (st, .inl (cI, 75, .inl sg)), (go, .inl (cI, 160, .inl gg_2)), (pt, .inl (cI, 4, .inl gp_3)), (ch, .inl (cI, 4, .inl gc_4)), (su, .inl (cI, 4, .inl gs_5)), (kp, .inl (cI, 1204, .inl gk_6)), (hr, .inl (cI, 600, .inl gh_7))] H := hP
    have hD : va_D A [(mo, .inr (7, [.ref st, .ref im, .ref iz, .ref go, .int lj_1, .ref pt, .ref ch, .ref su, .ref kp, .ref hr, .int bf, .int bc, .int bs, .int bt, .int gd])), (st, .inl (cI, 75, .inl sg)), (go, .inl (cI, 160, .inl gg_2)), (pt, .inl (cI, 4, .inl gp_3)), (ch, .inl (cI, 4, .inl gc_4)), (su, .inl (cI, 4, .inl gs_5)), (kp, .inl (cI, 1204, .inl gk_6)), (hr, .inl (cI, 600, .inl gh_7))] := hD
    have hw_13 : zks (zKr sg (zpl sg) (zru sg) (zkk sg)) gk_6 301 ∧ zhs (fun r_13 k => zHs sg (zpl sg) (zru sg) (zkk sg) k r_13) gh_7 300 := hw_13
    refine lv_iconst (v := 1) hx hb dX7_settled_16 (by decide) ?_
    refine lv_istore_n (lv' := [(2, .int 1), (0, .ref mo), (1, .int p0)]) hx hb dX7_settled_17 rfl hl (by decide) rfl (fun ls hl => ?_)
    have L_18 : ∀ (n : Nat) (i : Nat) (H : Heap) (locs : List Loc) (ls : Array Slot), (i ≤ 300) → (∀ r, 1 ≤ r → r ≤ i → ∀ d, d < r → ¬ zsame (zKr sg (zpl sg) (zru sg) (zkk sg)) d r) → 300 - i < n → va_P D vwCl [(mo, .inr (7, [.ref st, .ref im, .ref iz, .ref go, .int lj_1, .ref pt, .ref ch, .ref su, .ref kp, .ref hr, .int bf, .int bc, .int bs, .int bt, .int gd])), (st, .inl (cI, 75, .inl sg)), (go, .inl (cI, 160, .inl gg_2)), (pt, .inl (cI, 4, .inl gp_3)), (ch, .inl (cI, 4, .inl gc_4)), (su, .inl (cI, 4, .inl gs_5)), (kp, .inl (cI, 1204, .inl gk_6)), (hr, .inl (cI, 600, .inl gh_7))] H → va_D A [(mo, .inr (7, [.ref st, .ref im, .ref iz, .ref go, .int lj_1, .ref pt, .ref ch, .ref su, .ref kp, .ref hr, .int bf, .int bc, .int bs, .int bt, .int gd])), (st, .inl (cI, 75, .inl sg)), (go, .inl (cI, 160, .inl gg_2)), (pt, .inl (cI, 4, .inl gp_3)), (ch, .inl (cI, 4, .inl gc_4)), (su, .inl (cI, 4, .inl gs_5)), (kp, .inl (cI, 1204, .inl gk_6)), (hr, .inl (cI, 600, .inl gh_7))] → va_S A s.heap H locs → lv_has ls 4 [(0, .ref mo), (1, .int p0), (2, .int (nI (i + 1)))] → W p l e ({ frames := 3, cells := 0, slots := 0, locals := 73 } : Room) s m ([.ref mo, .int p0] : List Value).toArray below meth c H locs 0 0 Q (F0 m 18 ls []) := by
      intro n
      induction n with
      | zero =>
        intro i H locs ls hi hz hlt hP hD hS hl
        exact absurd hlt (Nat.not_lt_zero _)
      | succ n ih_18 =>
        intro i H locs ls hi hz hlt hP hD hS hl
        refine lv_iload_n hx hb dX7_settled_18 rfl (lv_at hl 2 rfl) ?_
        refine lv_sipush (v := 300) hx hb dX7_settled_19 (by decide) ?_
        refine lv_icmp_gt (tgt := 70) hx hb dX7_settled_22 (by decide) (fun c_22 => ?_) (fun c_22 => ?_)
        · have hge := zn_lt (a := 300) c_22 (by decide) (by omega)
          refine lv_bipush (v := (-6)) hx hb dX7_settled_70 (by decide) ?_
          have hq := hret (-6) (lj_1, gg_2, gp_3, gc_4, gs_5, gk_6, gh_7) H locs 72 ls
          dsimp only at hq
          exact hq (by (try dsimp only); unfold zsettled; rw [if_pos c_6]; exact Or.inr ⟨fun r h1 h2 => hz r h1 (by omega), rfl⟩) hP hD hS dX7_settled_72
        · have hge := zn_nlt (a := 300) c_22 (by omega)
          have hiff := fun d (hd : d < i + 1) => zal_same hw_13.1 (a := d) (b := i + 1) (by omega) (by omega)
          refine lv_aload_n hx hb dX7_settled_25 rfl (lv_at hl 0 rfl) ?_
          refine lv_iload_n hx hb dX7_settled_26 rfl (lv_at hl 2 rfl) ?_
          refine zk_cVi (rest := []) (wr := [(st, .inl (cI, 75, .inl sg)), (go, .inl (cI, 160, .inl gg_2)), (pt, .inl (cI, 4, .inl gp_3)), (ch, .inl (cI, 4, .inl gc_4)), (su, .inl (cI, 4, .inl gs_5)), (hr, .inl (cI, 600, .inl gh_7))]) X hE hA (c_X7_earlier l D cI cZ ts mo st im iz go pt ch su kp hr lj_1 bf bc bs bt gd gk_6 (i + 1) (by omega)) (cwV 1 hts gX7_settled_X7_earlier rfl rfl rfl hdX7_earlier ⟨Nat.le_of_ble_eq_true rfl, Nat.le_of_ble_eq_true rfl⟩) dX7_settled_27 hP hD hS [0, 6] [1, 2, 3, 4, 5, 7] ⟨rfl, rfl, trivial⟩ ⟨rfl, rfl, rfl, rfl, rfl, rfl, trivial⟩ (by decide +kernel) (by decide +kernel) (by decide +kernel) 7 rfl rfl rfl hl rfl (Nat.le_of_ble_eq_true rfl) ⟨Nat.le_of_ble_eq_true rfl, Nat.le_of_ble_eq_true rfl⟩ (fun r_27 _ H locs hw_27 hP hD hS => ?_)
          have hP : va_P D vwCl [(st, .inl (cI, 75, .inl sg)), (go, .inl (cI, 160, .inl gg_2)), (pt, .inl (cI, 4, .inl gp_3)), (ch, .inl (cI, 4, .inl gc_4)), (su, .inl (cI, 4, .inl gs_5)), (hr, .inl (cI, 600, .inl gh_7)), (mo, .inr (7, [.ref st, .ref im, .ref iz, .ref go, .int lj_1, .ref pt, .ref ch, .ref su, .ref kp, .ref hr, .int bf, .int bc, .int bs, .int bt, .int gd])), (kp, .inl (cI, 1204, .inl gk_6))] H := hP
          have hD : va_D A [(st, .inl (cI, 75, .inl sg)), (go, .inl (cI, 160, .inl gg_2)), (pt, .inl (cI, 4, .inl gp_3)), (ch, .inl (cI, 4, .inl gc_4)), (su, .inl (cI, 4, .inl gs_5)), (hr, .inl (cI, 600, .inl gh_7)), (mo, .inr (7, [.ref st, .ref im, .ref iz, .ref go, .int lj_1, .ref pt, .ref ch, .ref su, .ref kp, .ref hr, .int bf, .int bc, .int bs, .int bt, .int gd])), (kp, .inl (cI, 1204, .inl gk_6))] := hD
          have hw_27 : ((∃ j9, j9 < (i + 1) ∧ r_27 = nI j9 ∧ zal gk_6 j9 (i + 1) ∧ ∀ d9, d9 < j9 → ¬ zal gk_6 d9 (i + 1)) ∨ (r_27 = (-6) ∧ ∀ d9, d9 < (i + 1) → ¬ zal gk_6 d9 (i + 1))) := hw_27
          refine lv_istore_n (lv' := [(3, .int r_27), (0, .ref mo), (1, .int p0), (2, .int (nI (i + 1)))]) hx hb dX7_settled_30 rfl hl (by decide) rfl (fun ls hl => ?_)
          refine lv_iload_n hx hb dX7_settled_31 rfl (lv_at hl 0 rfl) ?_
          refine lv_if_lt (tgt := 64) hx hb dX7_settled_32 (by decide) (fun c_32 => ?_) (fun c_32 => ?_)
          · have hno : ∀ d, d < i + 1 → ¬ zsame (zKr sg (zpl sg) (zru sg) (zkk sg)) d (i + 1) := by
              intro d hd q
              rcases hw_27 with ⟨j, hj, hr, -⟩ | ⟨-, h⟩
              · rw [hr] at c_32; exact nI_pos (by omega) c_32
              · exact h d hd ((hiff d hd).mpr q)
            clear hw_27
            refine lv_iinc (v := nI (i + 1 + 1)) (lv' := [(2, .int (nI (i + 1 + 1))), (3, .int r_27), (0, .ref mo), (1, .int p0)]) hx hb dX7_settled_64 hl (k := 3) rfl (zk_inc (i + 1)) (by decide) rfl (fun ls hl => ?_)
            refine lv_goto (tgt := 18) hx hb dX7_settled_67 (by decide) ?_
            exact ih_18 (i + 1) H locs ls (by omega) (fun r h1 h2 => if e : r = i + 1 then e ▸ hno else hz r h1 (by omega)) (by omega) (zk_subP hP [6, 0, 1, 2, 3, 4, 7, 5] ⟨rfl, rfl, rfl, rfl, rfl, rfl, rfl, rfl, trivial⟩) (zk_subD hD [6, 0, 1, 2, 3, 4, 7, 5] (by decide +kernel) ⟨rfl, rfl, rfl, rfl, rfl, rfl, rfl, rfl, trivial⟩) hS (lv_sub hl [2, 3, 0] rfl)
          · obtain ⟨j, hj, hr, hzq, hzm⟩ : ∃ j, j < i + 1 ∧ r_27 = nI j ∧ zsame (zKr sg (zpl sg) (zru sg) (zkk sg)) j (i + 1) ∧ ∀ d, d < j → ¬ zsame (zKr sg (zpl sg) (zru sg) (zkk sg)) d (i + 1) := by
              rcases hw_27 with ⟨j, hj, hr, h1, h2⟩ | ⟨h, -⟩
              · exact ⟨j, hj, hr, (hiff j hj).mp h1, fun d hd q => h2 d hd ((hiff d (by omega)).mpr q)⟩
              · rw [h] at c_32; exact absurd (by decide) c_32
            clear hw_27
            subst hr
            have hset : zset1 (zKr sg (zpl sg) (zru sg) (zkk sg)) (i + 1) j := ⟨by omega, by omega, hj, hzq, hzm, fun r h1 h2 => hz r h1 (by omega)⟩
            refine lv_iload_n hx hb dX7_settled_35 rfl (lv_at hl 2 rfl) ?_
            refine lv_if_ne (tgt := 43) hx hb dX7_settled_36 (by decide) (fun c_36 => ?_) (fun c_36 => ?_)
            · refine lv_iload_n hx hb dX7_settled_43 rfl (lv_at hl 2 rfl) ?_
              refine lv_iconst (v := 1) hx hb dX7_settled_44 (by decide) ?_
              refine lv_icmp_ne (tgt := 54) hx hb dX7_settled_45 (by decide) (fun c_45 => ?_) (fun c_45 => ?_)
              · obtain ⟨hw2, hw3⟩ := zw_2 c_6 c_36 c_45
                refine lv_aload_n hx hb dX7_settled_54 rfl (lv_at hl 1 rfl) ?_
                refine lv_iload_n hx hb dX7_settled_55 rfl (lv_at hl 0 rfl) ?_
                refine lv_iload_n hx hb dX7_settled_56 rfl (lv_at hl 3 rfl) ?_
                refine lv_iload_n hx hb dX7_settled_57 rfl (lv_at hl 2 rfl) ?_
                refine lv_iconst (v := 2) hx hb dX7_settled_58 (by decide) ?_
                refine lv_isub hx hb dX7_settled_59 ?_
                refine zk_top (show (p0 - 2 : Int32) = nI (p0 - 2).toNatClampNeg from hw2) ?_
                refine zk_cVi (rest := []) (wr := [(st, .inl (cI, 75, .inl sg)), (go, .inl (cI, 160, .inl gg_2)), (pt, .inl (cI, 4, .inl gp_3)), (ch, .inl (cI, 4, .inl gc_4)), (su, .inl (cI, 4, .inl gs_5)), (kp, .inl (cI, 1204, .inl gk_6))]) X hE hA (c_X7_heartsOf l D cI cZ ts mo st im iz go pt ch su kp hr lj_1 bf bc bs bt gd gh_7 j (i + 1) ((p0 - 2).toNatClampNeg) (by omega) (by omega) hw3) (cwV 3 hts gX7_settled_X7_heartsOf rfl rfl rfl hdX7_heartsOf ⟨Nat.le_of_ble_eq_true rfl, Nat.le_of_ble_eq_true rfl⟩) dX7_settled_60 hP hD hS [6, 5] [0, 1, 2, 3, 4, 7] ⟨rfl, rfl, trivial⟩ ⟨rfl, rfl, rfl, rfl, rfl, rfl, trivial⟩ (by decide +kernel) (by decide +kernel) (by decide +kernel) 7 rfl rfl rfl hl rfl (Nat.le_of_ble_eq_true rfl) ⟨Nat.le_of_ble_eq_true rfl, Nat.le_of_ble_eq_true rfl⟩ (fun r_60 _ H locs hw_60 hP hD hS => ?_)
                have hP : va_P D vwCl [(st, .inl (cI, 75, .inl sg)), (go, .inl (cI, 160, .inl gg_2)), (pt, .inl (cI, 4, .inl gp_3)), (ch, .inl (cI, 4, .inl gc_4)), (su, .inl (cI, 4, .inl gs_5)), (kp, .inl (cI, 1204, .inl gk_6)), (mo, .inr (7, [.ref st, .ref im, .ref iz, .ref go, .int lj_1, .ref pt, .ref ch, .ref su, .ref kp, .ref hr, .int bf, .int bc, .int bs, .int bt, .int gd])), (hr, .inl (cI, 600, .inl gh_7))] H := hP
                have hD : va_D A [(st, .inl (cI, 75, .inl sg)), (go, .inl (cI, 160, .inl gg_2)), (pt, .inl (cI, 4, .inl gp_3)), (ch, .inl (cI, 4, .inl gc_4)), (su, .inl (cI, 4, .inl gs_5)), (kp, .inl (cI, 1204, .inl gk_6)), (mo, .inr (7, [.ref st, .ref im, .ref iz, .ref go, .int lj_1, .ref pt, .ref ch, .ref su, .ref kp, .ref hr, .int bf, .int bc, .int bs, .int bt, .int gd])), (hr, .inl (cI, 600, .inl gh_7))] := hD
                obtain rfl : r_60 = (zG (fun j => gh_7 (2 * j + ((p0 - 2).toNatClampNeg))) j (i + 1)) := hw_60
                have hq := hret (zG (fun j => gh_7 (2 * j + ((p0 - 2).toNatClampNeg))) j (i + 1)) (lj_1, gg_2, gp_3, gc_4, gs_5, gk_6, gh_7) H locs 63 ls
                dsimp only at hq
                exact hq (by (try dsimp only); unfold zsettled; rw [if_pos c_6]; refine Or.inl ⟨_, _, hset, ?_⟩; first | rw [if_pos c_36] | rw [if_neg c_36, if_pos c_45] | exact zset_hs hw_13.2 c_36 c_45 hw3 (by omega) (by omega) hw2) (zk_subP hP [6, 0, 1, 2, 3, 4, 5, 7] ⟨rfl, rfl, rfl, rfl, rfl, rfl, rfl, rfl, trivial⟩) (zk_subD hD [6, 0, 1, 2, 3, 4, 5, 7] (by decide +kernel) ⟨rfl, rfl, rfl, rfl, rfl, rfl, rfl, rfl, trivial⟩) hS dX7_settled_63
              · refine lv_iload_n hx hb dX7_settled_48 rfl (lv_at hl 3 rfl) ?_
                refine lv_iload_n hx hb dX7_settled_49 rfl (lv_at hl 0 rfl) ?_
                refine lv_isub hx hb dX7_settled_50 ?_
                refine zk_top (show ((nI (i + 1)) - (nI j) : Int32) = nI (i + 1 - j) from pk_sub (by omega)) ?_
                refine lv_goto (tgt := 63) hx hb dX7_settled_51 (by decide) ?_
                have hq := hret (nI (i + 1 - j)) (lj_1, gg_2, gp_3, gc_4, gs_5, gk_6, gh_7) H locs 63 ls
                dsimp only at hq
                exact hq (by (try dsimp only); unfold zsettled; rw [if_pos c_6]; refine Or.inl ⟨_, _, hset, ?_⟩; first | rw [if_pos c_36] | rw [if_neg c_36, if_pos c_45] | exact zset_hs hw_13.2 c_36 c_45 hw3 (by omega) (by omega) hw2) (zk_subP hP [6, 0, 1, 2, 3, 4, 7, 5] ⟨rfl, rfl, rfl, rfl, rfl, rfl, rfl, rfl, trivial⟩) (zk_subD hD [6, 0, 1, 2, 3, 4, 7, 5] (by decide +kernel) ⟨rfl, rfl, rfl, rfl, rfl, rfl, rfl, rfl, trivial⟩) hS dX7_settled_63
            · refine lv_iload_n hx hb dX7_settled_39 rfl (lv_at hl 0 rfl) ?_
              refine lv_goto (tgt := 63) hx hb dX7_settled_40 (by decide) ?_
              have hq := hret (nI j) (lj_1, gg_2, gp_3, gc_4, gs_5, gk_6, gh_7) H locs 63 ls
              dsimp only at hq
              exact hq (by (try dsimp only); unfold zsettled; rw [if_pos c_6]; refine Or.inl ⟨_, _, hset, ?_⟩; first | rw [if_pos c_36] | rw [if_neg c_36, if_pos c_45] | exact zset_hs hw_13.2 c_36 c_45 hw3 (by omega) (by omega) hw2) (zk_subP hP [6, 0, 1, 2, 3, 4, 7, 5] ⟨rfl, rfl, rfl, rfl, rfl, rfl, rfl, rfl, trivial⟩) (zk_subD hD [6, 0, 1, 2, 3, 4, 7, 5] (by decide +kernel) ⟨rfl, rfl, rfl, rfl, rfl, rfl, rfl, rfl, trivial⟩) hS dX7_settled_63
    exact L_18 _ 0 H locs ls (Nat.zero_le _) (fun r h1 h2 => absurd h1 (by omega)) (Nat.lt_succ_self _) hP hD hS (lv_sub hl [1, 2, 0] rfl)
  · have c_6 : ¬ (0 ≤ p0 ∧ p0 ≤ 3) := zk_ite0 c_6
    refine lv_bipush (v := (-2)) hx hb dX7_settled_9 (by decide) ?_
    have hq := hret (-2) (li, fg, fp, fc, fs, fk, fh) H locs 11 ls
    dsimp only at hq
    exact hq (by (try dsimp only); unfold zsettled; rw [if_neg c_6]) hP hD hS dX7_settled_11
set_option maxHeartbeats 4000000 in
set_option maxRecDepth 100000 in
theorem c_X7_cask (l : Launch) (D : va_G) (cI cZ : ClassId) (ts : Nat → Nat) (mo : Nat) (st : Nat) (im : Nat) (iz : Nat) (go : Nat) (pt : Nat) (ch : Nat) (su : Nat) (kp : Nat) (hr : Nat) (li : Int32) (bf : Int32) (bc : Int32) (bs : Int32) (bt : Int32) (gd : Int32) (sg : Nat → Int32) (fg : Nat → Int32) (fp : Nat → Int32) (fc : Nat → Int32) (fs : Nat → Int32) (fk : Nat → Int32) (fh : Nat → Int32) (p0 : Int32) (p1 : Int32) (hsl : 1 ≤ sg 19 ∧ sg 19 ≤ 99) (hsp : ∀ r i, ¬ zP (zpl sg) (zru sg) (zch sg (zKr sg (zpl sg) (zru sg) (zkk sg) r)) i 1 < 0) (hru : ¬ sg 15 < 0) : zk_Mi l yX7_cask wsX7_cask ({ frames := 3, cells := 0, slots := 0, locals := 73 } : Room) D cI cZ ts [.ref mo, .int p0, .int p1] [(mo, .inr (7, [.ref st, .ref im, .ref iz, .ref go, .int li, .ref pt, .ref ch, .ref su, .ref kp, .ref hr, .int bf, .int bc, .int bs, .int bt, .int gd])), (st, .inl (cI, 75, .inl sg)), (go, .inl (cI, 160, .inl fg)), (pt, .inl (cI, 4, .inl fp)), (ch, .inl (cI, 4, .inl fc)), (su, .inl (cI, 4, .inl fs)), (kp, .inl (cI, 1204, .inl fk)), (hr, .inl (cI, 600, .inl fh))] (fun (r : Int32) (u : Int32 × (Nat → Int32) × (Nat → Int32) × (Nat → Int32) × (Nat → Int32) × (Nat → Int32) × (Nat → Int32)) => zcask (zHs sg (zpl sg) (zru sg) (zkk sg)) p0 p1 r) (fun (u : Int32 × (Nat → Int32) × (Nat → Int32) × (Nat → Int32) × (Nat → Int32) × (Nat → Int32) × (Nat → Int32)) => [(mo, .inr (7, [.ref st, .ref im, .ref iz, .ref go, .int u.1, .ref pt, .ref ch, .ref su, .ref kp, .ref hr, .int bf, .int bc, .int bs, .int bt, .int gd])), (st, .inl (cI, 75, .inl sg)), (go, .inl (cI, 160, .inl u.2.1)), (pt, .inl (cI, 4, .inl u.2.2.1)), (ch, .inl (cI, 4, .inl u.2.2.2.1)), (su, .inl (cI, 4, .inl u.2.2.2.2.1)), (kp, .inl (cI, 1204, .inl u.2.2.2.2.2.1)), (hr, .inl (cI, 600, .inl u.2.2.2.2.2.2))]) 0 0 := by
  refine zk_Mi.of (cc := cX7_cask) (maxL := 6) RX7 (by decide) rfl (Nat.le_of_ble_eq_true rfl) rfl ?_
  intro p e s m below meth c A Q H locs ls X hE hA hP hD hS hret hl
  obtain ⟨hx, hb, hml, hown, hts⟩ := id X
  have hl : lv_has ls 6 [(0, .ref mo), (1, .int p0), (2, .int p1)] := hl
  refine lv_iload_n hx hb dX7_cask_0 rfl (lv_at hl 1 rfl) ?_
  refine lv_iconst (v := 1) hx hb dX7_cask_1 (by decide) ?_
  refine lv_sipush (v := 999) hx hb dX7_cask_2 (by decide) ?_
  refine zk_cSi (rest := []) X hE hA (c_X7_in l D cI cZ ts p0 1 999) (cwS 3 hts gX7_cask_X7_in rfl rfl rfl hdX7_in ⟨Nat.le_of_ble_eq_true rfl, Nat.le_of_ble_eq_true rfl⟩) dX7_cask_5 hP hD hS rfl hl rfl (Nat.le_of_ble_eq_true rfl) ⟨Nat.le_of_ble_eq_true rfl, Nat.le_of_ble_eq_true rfl⟩ (fun r_5 _ H locs hw_5 hP hD hS => ?_)
  obtain rfl : r_5 = (if 1 ≤ p0 ∧ p0 ≤ 999 then 1 else 0) := hw_5
  refine lv_if_eq (tgt := 20) hx hb dX7_cask_8 (by decide) (fun c_8 => ?_) (fun c_8 => ?_)
  · have c_8 : ¬ (1 ≤ p0 ∧ p0 ≤ 999) := zk_ite0 c_8
    refine lv_bipush (v := (-2)) hx hb dX7_cask_20 (by decide) ?_
    have hq := hret (-2) (li, fg, fp, fc, fs, fk, fh) H locs 22 ls
    dsimp only at hq
    exact hq (by (try dsimp only); unfold zcask; first | rw [if_neg (fun q => c_8 q.1)] | rw [if_neg (fun q => c_17 q.2)]) hP hD hS dX7_cask_22
  · have c_8 : 1 ≤ p0 ∧ p0 ≤ 999 := zk_ite1 c_8
    refine lv_iload_n hx hb dX7_cask_11 rfl (lv_at hl 2 rfl) ?_
    refine lv_iconst (v := 0) hx hb dX7_cask_12 (by decide) ?_
    refine lv_iconst (v := 1) hx hb dX7_cask_13 (by decide) ?_
    refine zk_cSi (rest := []) X hE hA (c_X7_in l D cI cZ ts p1 0 1) (cwS 3 hts gX7_cask_X7_in rfl rfl rfl hdX7_in ⟨Nat.le_of_ble_eq_true rfl, Nat.le_of_ble_eq_true rfl⟩) dX7_cask_14 hP hD hS rfl hl rfl (Nat.le_of_ble_eq_true rfl) ⟨Nat.le_of_ble_eq_true rfl, Nat.le_of_ble_eq_true rfl⟩ (fun r_14 _ H locs hw_14 hP hD hS => ?_)
    obtain rfl : r_14 = (if 0 ≤ p1 ∧ p1 ≤ 1 then 1 else 0) := hw_14
    refine lv_if_ne (tgt := 23) hx hb dX7_cask_17 (by decide) (fun c_17 => ?_) (fun c_17 => ?_)
    · have c_17 : 0 ≤ p1 ∧ p1 ≤ 1 := zk_ite1 c_17
      refine lv_aload_n hx hb dX7_cask_23 rfl (lv_at hl 0 rfl) ?_
      refine zk_cVv (rest := []) (wr := []) X hE hA (c_X7_layRuns l D cI cZ ts mo st im iz go pt ch su kp hr li bf bc bs bt gd sg fg fp fc fs fk fh (by first | assumption | omega) (by first | assumption | omega) (by first | assumption | omega)) (cwV 0 hts gX7_cask_X7_layRuns rfl rfl rfl hdX7_layRuns ⟨Nat.le_of_ble_eq_true rfl, Nat.le_of_ble_eq_true rfl⟩) dX7_cask_24 hP hD hS [0, 1, 2, 3, 4, 5, 6, 7] [] ⟨rfl, rfl, rfl, rfl, rfl, rfl, rfl, rfl, trivial⟩ trivial (by decide +kernel) (by decide +kernel) (by decide +kernel) 7 rfl rfl rfl hl rfl (Nat.le_of_ble_eq_true rfl) ⟨Nat.le_of_ble_eq_true rfl, Nat.le_of_ble_eq_true rfl⟩ (fun u_24 H locs hw_24 hP hD hS => ?_)
      obtain ⟨lj_1, gg_2, gp_3, gc_4, gs_5, gk_6, gh_7⟩ := u_24
      have hP : va_P D vwCl [(mo, .inr (7, [.ref st, .ref im, .ref iz, .ref go, .int lj_1, .ref pt, .ref ch, .ref su, .ref kp, .ref hr, .int bf, .int bc, .int bs, .int bt, .int gd])), (st, .inl (cI, 75, .inl sg)), (go, .inl (cI, 160, .inl gg_2)), (pt, .inl (cI, 4, .inl gp_3)), (ch, .inl (cI, 4, .inl gc_4)), (su, .inl (cI, 4, .inl gs_5)), (kp, .inl (cI, 1204, .inl gk_6)), (hr, .inl (cI, 600, .inl gh_7))] H := hP
      have hD : va_D A [(mo, .inr (7, [.ref st, .ref im, .ref iz, .ref go, .int lj_1, .ref pt, .ref ch, .ref su, .ref kp, .ref hr, .int bf, .int bc, .int bs, .int bt, .int gd])), (st, .inl (cI, 75, .inl sg)), (go, .inl (cI, 160, .inl gg_2)), (pt, .inl (cI, 4, .inl gp_3)), (ch, .inl (cI, 4, .inl gc_4)), (su, .inl (cI, 4, .inl gs_5)), (kp, .inl (cI, 1204, .inl gk_6)), (hr, .inl (cI, 600, .inl gh_7))] := hD
      have hw_24 : zks (zKr sg (zpl sg) (zru sg) (zkk sg)) gk_6 301 ∧ zhs (fun r_24 k => zHs sg (zpl sg) (zru sg) (zkk sg) k r_24) gh_7 300 := hw_24
      refine lv_iconst (v := 0) hx hb dX7_cask_27 (by decide) ?_
      refine lv_istore_n (lv' := [(3, .int 0), (0, .ref mo), (1, .int p0), (2, .int p1)]) hx hb dX7_cask_28 rfl hl (by decide) rfl (fun ls hl => ?_)
      refine lv_iconst (v := 0) hx hb dX7_cask_29 (by decide) ?_
      refine lv_istore (lv' := [(4, .int 0), (3, .int 0), (0, .ref mo), (1, .int p0), (2, .int p1)]) hx hb dX7_cask_30 hl (by decide) rfl (fun ls hl => ?_)
      refine lv_iconst (v := 0) hx hb dX7_cask_32 (by decide) ?_
      refine lv_istore (lv' := [(5, .int 0), (4, .int 0), (3, .int 0), (0, .ref mo), (1, .int p0), (2, .int p1)]) hx hb dX7_cask_33 hl (by decide) rfl (fun ls hl => ?_)
      have L_35 : ∀ (n : Nat) (i : Nat) (H : Heap) (locs : List Loc) (ls : Array Slot), (i ≤ 300) → (∀ r, 1 ≤ r → r ≤ i → ¬ p0 ≤ zS (zHs sg (zpl sg) (zru sg) (zkk sg) 0) r) → 300 - i < n → va_P D vwCl [(mo, .inr (7, [.ref st, .ref im, .ref iz, .ref go, .int lj_1, .ref pt, .ref ch, .ref su, .ref kp, .ref hr, .int bf, .int bc, .int bs, .int bt, .int gd])), (st, .inl (cI, 75, .inl sg)), (go, .inl (cI, 160, .inl gg_2)), (pt, .inl (cI, 4, .inl gp_3)), (ch, .inl (cI, 4, .inl gc_4)), (su, .inl (cI, 4, .inl gs_5)), (kp, .inl (cI, 1204, .inl gk_6)), (hr, .inl (cI, 600, .inl gh_7))] H → va_D A [(mo, .inr (7, [.ref st, .ref im, .ref iz, .ref go, .int lj_1, .ref pt, .ref ch, .ref su, .ref kp, .ref hr, .int bf, .int bc, .int bs, .int bt, .int gd])), (st, .inl (cI, 75, .inl sg)), (go, .inl (cI, 160, .inl gg_2)), (pt, .inl (cI, 4, .inl gp_3)), (ch, .inl (cI, 4, .inl gc_4)), (su, .inl (cI, 4, .inl gs_5)), (kp, .inl (cI, 1204, .inl gk_6)), (hr, .inl (cI, 600, .inl gh_7))] → va_S A s.heap H locs → lv_has ls 6 [(0, .ref mo), (1, .int p0), (2, .int p1), (3, .int (zS (zHs sg (zpl sg) (zru sg) (zkk sg) 0) i)), (4, .int (zS (zHs sg (zpl sg) (zru sg) (zkk sg) 1) i)), (5, .int (nI i))] → W p l e ({ frames := 3, cells := 0, slots := 0, locals := 73 } : Room) s m ([.ref mo, .int p0, .int p1] : List Value).toArray below meth c H locs 0 0 Q (F0 m 35 ls []) := by
        intro n
        induction n with
        | zero =>
          intro i H locs ls hi hz hlt hP hD hS hl
          exact absurd hlt (Nat.not_lt_zero _)
        | succ n ih_35 =>
          intro i H locs ls hi hz hlt hP hD hS hl
          refine lv_iload hx hb dX7_cask_35 (lv_at hl 5 rfl) ?_
          refine lv_sipush (v := 300) hx hb dX7_cask_37 (by decide) ?_
          refine lv_icmp_ge (tgt := 100) hx hb dX7_cask_40 (by decide) (fun c_40 => ?_) (fun c_40 => ?_)
          · have hge := zn_le (a := 300) c_40 (by decide) (by omega)
            refine lv_bipush (v := (-6)) hx hb dX7_cask_100 (by decide) ?_
            have hq := hret (-6) (lj_1, gg_2, gp_3, gc_4, gs_5, gk_6, gh_7) H locs 102 ls
            dsimp only at hq
            exact hq (by (try dsimp only); unfold zcask; rw [if_pos ⟨c_8, c_17⟩]; exact Or.inr ⟨fun r h1 h2 => hz r h1 (by omega), rfl⟩) hP hD hS dX7_cask_102
          · have hik : i < 300 := zn_nle (a := 300) c_40 (by omega)
            have hh2 := hw_24.2 i hik
            refine lv_iload_n hx hb dX7_cask_43 rfl (lv_at hl 3 rfl) ?_
            refine lv_aload_n hx hb dX7_cask_44 rfl (lv_at hl 0 rfl) ?_
            refine zk_get X hE sX7_cask_45 hP 0 rfl rfl ?_
            refine lv_iconst (v := 2) hx hb dX7_cask_48 (by decide) ?_
            refine lv_iload hx hb dX7_cask_49 (lv_at hl 5 rfl) ?_
            refine lv_imul hx hb dX7_cask_51 ?_
            refine zk_top (show (2 * (nI i) : Int32) = nI (2 * i) from pk_mul 2 i) ?_
            refine zk_ald hx hb hE hP 7 (2 * i) rfl rfl (by omega) (Nat.le_of_ble_eq_true rfl) dX7_cask_52 ?_
            refine lv_iadd hx hb dX7_cask_53 ?_
            refine zk_top (show ((zS (zHs sg (zpl sg) (zru sg) (zkk sg) 0) i) + (gh_7 (2 * i)) : Int32) = zS (zHs sg (zpl sg) (zru sg) (zkk sg) 0) (i + 1) from (by rw [hh2.1]; rfl)) ?_
            refine lv_istore_n (lv' := [(3, .int (zS (zHs sg (zpl sg) (zru sg) (zkk sg) 0) (i + 1))), (0, .ref mo), (1, .int p0), (2, .int p1), (4, .int (zS (zHs sg (zpl sg) (zru sg) (zkk sg) 1) i)), (5, .int (nI i))]) hx hb dX7_cask_54 rfl hl (by decide) rfl (fun ls hl => ?_)
            refine lv_iload hx hb dX7_cask_55 (lv_at hl 4 rfl) ?_
            refine lv_aload_n hx hb dX7_cask_57 rfl (lv_at hl 1 rfl) ?_
            refine zk_get X hE sX7_cask_58 hP 0 rfl rfl ?_
            refine lv_iconst (v := 2) hx hb dX7_cask_61 (by decide) ?_
            refine lv_iload hx hb dX7_cask_62 (lv_at hl 5 rfl) ?_
            refine lv_imul hx hb dX7_cask_64 ?_
            refine zk_top (show (2 * (nI i) : Int32) = nI (2 * i) from pk_mul 2 i) ?_
            refine lv_iconst (v := 1) hx hb dX7_cask_65 (by decide) ?_
            refine lv_iadd hx hb dX7_cask_66 ?_
            refine zk_top (show ((nI (2 * i)) + 1 : Int32) = nI ((2 * i) + 1) from nI_add (2 * i) 1) ?_
            refine zk_ald hx hb hE hP 7 ((2 * i) + 1) rfl rfl (by omega) (Nat.le_of_ble_eq_true rfl) dX7_cask_67 ?_
            refine lv_iadd hx hb dX7_cask_68 ?_
            refine zk_top (show ((zS (zHs sg (zpl sg) (zru sg) (zkk sg) 1) i) + (gh_7 ((2 * i) + 1)) : Int32) = zS (zHs sg (zpl sg) (zru sg) (zkk sg) 1) (i + 1) from (by rw [hh2.2]; rfl)) ?_
            refine lv_istore (lv' := [(4, .int (zS (zHs sg (zpl sg) (zru sg) (zkk sg) 1) (i + 1))), (3, .int (zS (zHs sg (zpl sg) (zru sg) (zkk sg) 0) (i + 1))), (0, .ref mo), (1, .int p0), (2, .int p1), (5, .int (nI i))]) hx hb dX7_cask_69 hl (by decide) rfl (fun ls hl => ?_)
            refine lv_iload_n hx hb dX7_cask_71 rfl (lv_at hl 1 rfl) ?_
            refine lv_iload_n hx hb dX7_cask_72 rfl (lv_at hl 3 rfl) ?_
            refine lv_icmp_lt (tgt := 94) hx hb dX7_cask_73 (by decide) (fun c_73 => ?_) (fun c_73 => ?_)
            · refine lv_iinc (v := nI (i + 1)) (lv' := [(5, .int (nI (i + 1))), (4, .int (zS (zHs sg (zpl sg) (zru sg) (zkk sg) 1) (i + 1))), (3, .int (zS (zHs sg (zpl sg) (zru sg) (zkk sg) 0) (i + 1))), (0, .ref mo), (1, .int p0), (2, .int p1)]) hx hb dX7_cask_94 hl (k := 5) rfl (zk_inc i) (by decide) rfl (fun ls hl => ?_)
              refine lv_goto (tgt := 35) hx hb dX7_cask_97 (by decide) ?_
              exact ih_35 (i + 1) H locs ls (by omega) (fun r h1 h2 => if e : r = i + 1 then e ▸ zi_nle c_73 else hz r h1 (by omega)) (by omega) hP hD hS (lv_sub hl [3, 4, 5, 2, 1, 0] rfl)
            · have hfil : zfil1 (zS (zHs sg (zpl sg) (zru sg) (zkk sg) 0)) p0 (i + 1) := ⟨by omega, by omega, zi_le c_73, fun r h1 h2 => hz r h1 (by omega)⟩
              refine lv_iload_n hx hb dX7_cask_76 rfl (lv_at hl 4 rfl) ?_
              refine lv_if_ne (tgt := 87) hx hb dX7_cask_77 (by decide) (fun c_77 => ?_) (fun c_77 => ?_)
              · refine lv_iload_n hx hb dX7_cask_87 rfl (lv_at hl 1 rfl) ?_
                refine lv_iload hx hb dX7_cask_88 (lv_at hl 0 rfl) ?_
                refine zk_cSi (rest := []) X hE hA (c_X7_strengthOf l D cI cZ ts (zS (zHs sg (zpl sg) (zru sg) (zkk sg) 0) (i + 1)) (zS (zHs sg (zpl sg) (zru sg) (zkk sg) 1) (i + 1)) (zi_nlt (Int32.le_trans (Int32.le_trans (by decide) c_8.1) hfil.2.2.1))) (cwS 2 hts gX7_cask_X7_strengthOf rfl rfl rfl hdX7_strengthOf ⟨Nat.le_of_ble_eq_true rfl, Nat.le_of_ble_eq_true rfl⟩) dX7_cask_90 hP hD hS rfl hl rfl (Nat.le_of_ble_eq_true rfl) ⟨Nat.le_of_ble_eq_true rfl, Nat.le_of_ble_eq_true rfl⟩ (fun r_90 _ H locs hw_90 hP hD hS => ?_)
                obtain rfl : r_90 = (zq (zS (zHs sg (zpl sg) (zru sg) (zkk sg) 1) (i + 1)) (zS (zHs sg (zpl sg) (zru sg) (zkk sg) 0) (i + 1))) := hw_90
                have hq := hret (zq (zS (zHs sg (zpl sg) (zru sg) (zkk sg) 1) (i + 1)) (zS (zHs sg (zpl sg) (zru sg) (zkk sg) 0) (i + 1))) (lj_1, gg_2, gp_3, gc_4, gs_5, gk_6, gh_7) H locs 93 ls
                dsimp only at hq
                exact hq (by (try dsimp only); unfold zcask; rw [if_pos ⟨c_8, c_17⟩]; refine Or.inl ⟨_, hfil, ?_⟩; first | rw [if_pos c_77] | rw [if_neg c_77]) hP hD hS dX7_cask_93
              · refine lv_iload hx hb dX7_cask_80 (lv_at hl 5 rfl) ?_
                refine lv_iconst (v := 1) hx hb dX7_cask_82 (by decide) ?_
                refine lv_iadd hx hb dX7_cask_83 ?_
                refine zk_top (show ((nI i) + 1 : Int32) = nI (i + 1) from nI_add i 1) ?_
                refine lv_goto (tgt := 93) hx hb dX7_cask_84 (by decide) ?_
                have hq := hret (nI (i + 1)) (lj_1, gg_2, gp_3, gc_4, gs_5, gk_6, gh_7) H locs 93 ls
                dsimp only at hq
                exact hq (by (try dsimp only); unfold zcask; rw [if_pos ⟨c_8, c_17⟩]; refine Or.inl ⟨_, hfil, ?_⟩; first | rw [if_pos c_77] | rw [if_neg c_77]) hP hD hS dX7_cask_93
      exact L_35 _ 0 H locs ls (Nat.zero_le _) (fun r h1 h2 => absurd h1 (by omega)) (Nat.lt_succ_self _) hP hD hS (lv_sub hl [3, 4, 5, 2, 1, 0] rfl)
    · have c_17 : ¬ (0 ≤ p1 ∧ p1 ≤ 1) := zk_ite0 c_17
      refine lv_bipush (v := (-2)) hx hb dX7_cask_20 (by decide) ?_
      have hq := hret (-2) (li, fg, fp, fc, fs, fk, fh) H locs 22 ls
      dsimp only at hq
      exact hq (by (try dsimp only); unfold zcask; first | rw [if_neg (fun q => c_8 q.1)] | rw [if_neg (fun q => c_17 q.2)]) hP hD hS dX7_cask_22
