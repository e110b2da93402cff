set_option maxHeartbeats 4000000 in
set_option maxRecDepth 100000 in
theorem c_X4_keepInto (l : Launch) (D : va_G) (cI cZ : ClassId) (ts : Nat → Nat) (so : Nat) (qc : Nat) (qp : Nat) (qd : Nat) (qh : Nat) (qt : Nat) (qo : Nat) (ro : Nat) (ys : Nat) (e1 : Int32) (e2 : Int32) (kq : Nat) (x0 : Int32) (x1 : Int32) (x2 : Int32) (x3 : Int32) (z0 : Int32) (z1 : Int32) (z2 : Int32) (z3 : Int32) (k0 : Int32) (k1 : Int32) (k2 : Int32) (k3 : Int32)  : zk_Mv l yX4_keepInto wsX4_keepInto ({ frames := 2, cells := 0, slots := 0, locals := 45 } : Room) D cI cZ ts [.ref so, .ref kq] [(so, .inr (4, [.ref qc, .ref qp, .ref qd, .ref qh, .ref qt, .ref qo, .ref ro, .ref ys, .int e1, .int e2])), (qd, .inr (2, [.int x0, .int x1, .int x2, .int x3])), (qt, .inr (2, [.int z0, .int z1, .int z2, .int z3])), (kq, .inr (2, [.int k0, .int k1, .int k2, .int k3]))] (fun (_ : Unit) => True) (fun (_ : Unit) => [(so, .inr (4, [.ref qc, .ref qp, .ref qd, .ref qh, .ref qt, .ref qo, .ref ro, .ref ys, .int e1, .int e2])), (qd, .inr (2, [.int x0, .int x1, .int x2, .int x3])), (qt, .inr (2, [.int z0, .int z1, .int z2, .int z3])), (kq, .inr (2, [.int (x0 + z0), .int (x1 + z1), .int (x2 + z2), .int (x3 + z3)]))]) 0 0 := by
  refine zk_Mv.of (cc := cX4_keepInto) (maxL := 2) RX4 (by decide) rfl (Nat.le_of_ble_eq_true rfl) rfl ?_
  intro p e s m below meth c A Q H locs ls X hE hA hin hP hD hS hret hl
  obtain ⟨hx, hb, hml, hown, hts⟩ := id X
  have hl : lv_has ls 2 [(0, .ref so), (1, .ref kq)] := hl
  refine lv_aload_n hx hb dX4_keepInto_0 rfl (lv_at hl 1 rfl) ?_
  refine lv_aload_n hx hb dX4_keepInto_1 rfl (lv_at hl 0 rfl) ?_
  refine zk_get X hE sX4_keepInto_2 hP 0 rfl rfl ?_
  refine zk_cVv (rest := []) (wr := [(so, .inr (4, [.ref qc, .ref qp, .ref qd, .ref qh, .ref qt, .ref qo, .ref ro, .ref ys, .int e1, .int e2])), (qt, .inr (2, [.int z0, .int z1, .int z2, .int z3]))]) X hE hA (c_X2_become l D cI cZ ts kq qd k0 k1 k2 k3 x0 x1 x2 x3) (cwV 1 hts gX4_keepInto_X2_become rfl rfl rfl hdX2_become ⟨Nat.le_of_ble_eq_true rfl, Nat.le_of_ble_eq_true rfl⟩) dX4_keepInto_5 hP hD hS [3, 1] [0, 2] ⟨rfl, rfl, trivial⟩ ⟨rfl, rfl, trivial⟩ (by decide +kernel) (by decide +kernel) (by decide +kernel) 2 rfl rfl rfl hl rfl (Nat.le_of_ble_eq_true rfl) ⟨Nat.le_of_ble_eq_true rfl, Nat.le_of_ble_eq_true rfl⟩ (fun _ H locs hw_5 hP hD hS => ?_)
  have hP : va_P D vwCl [(so, .inr (4, [.ref qc, .ref qp, .ref qd, .ref qh, .ref qt, .ref qo, .ref ro, .ref ys, .int e1, .int e2])), (qt, .inr (2, [.int z0, .int z1, .int z2, .int z3])), (kq, .inr (2, [.int x0, .int x1, .int x2, .int x3])), (qd, .inr (2, [.int x0, .int x1, .int x2, .int x3]))] H := hP
  have hD : va_D A [(so, .inr (4, [.ref qc, .ref qp, .ref qd, .ref qh, .ref qt, .ref qo, .ref ro, .ref ys, .int e1, .int e2])), (qt, .inr (2, [.int z0, .int z1, .int z2, .int z3])), (kq, .inr (2, [.int x0, .int x1, .int x2, .int x3])), (qd, .inr (2, [.int x0, .int x1, .int x2, .int x3]))] := hD
  refine lv_aload_n hx hb dX4_keepInto_8 rfl (lv_at hl 1 rfl) ?_
  refine lv_aload_n hx hb dX4_keepInto_9 rfl (lv_at hl 0 rfl) ?_
  refine zk_get X hE sX4_keepInto_10 hP 0 rfl rfl ?_
  refine zk_cVv (rest := []) (wr := [(so, .inr (4, [.ref qc, .ref qp, .ref qd, .ref qh, .ref qt, .ref qo, .ref ro, .ref ys, .int e1, .int e2])), (qd, .inr (2, [.int x0, .int x1, .int x2, .int x3]))]) X hE hA (c_X2_add l D cI cZ ts kq qt x0 x1 x2 x3 z0 z1 z2 z3) (cwV 1 hts gX4_keepInto_X2_add rfl rfl rfl hdX2_add ⟨Nat.le_of_ble_eq_true rfl, Nat.le_of_ble_eq_true rfl⟩) dX4_keepInto_13 hP hD hS [2, 1] [0, 3] ⟨rfl, rfl, trivial⟩ ⟨rfl, rfl, trivial⟩ (by decide +kernel) (by decide +kernel) (by decide +kernel) 2 rfl rfl rfl hl rfl (Nat.le_of_ble_eq_true rfl) ⟨Nat.le_of_ble_eq_true rfl, Nat.le_of_ble_eq_true rfl⟩ (fun _ H locs hw_13 hP hD hS => ?_)
  have hP : va_P D vwCl [(so, .inr (4, [.ref qc, .ref qp, .ref qd, .ref qh, .ref qt, .ref qo, .ref ro, .ref ys, .int e1, .int e2])), (qd, .inr (2, [.int x0, .int x1, .int x2, .int x3])), (kq, .inr (2, [.int (x0 + z0), .int (x1 + z1), .int (x2 + z2), .int (x3 + z3)])), (qt, .inr (2, [.int z0, .int z1, .int z2, .int z3]))] H := hP
  have hD : va_D A [(so, .inr (4, [.ref qc, .ref qp, .ref qd, .ref qh, .ref qt, .ref qo, .ref ro, .ref ys, .int e1, .int e2])), (qd, .inr (2, [.int x0, .int x1, .int x2, .int x3])), (kq, .inr (2, [.int (x0 + z0), .int (x1 + z1), .int (x2 + z2), .int (x3 + z3)])), (qt, .inr (2, [.int z0, .int z1, .int z2, .int z3]))] := hD
  exact hret  () H locs 16 ls trivial (zk_subP hP [0, 1, 3, 2] ⟨rfl, rfl, rfl, rfl, trivial⟩) (zk_subD hD [0, 1, 3, 2] (by decide +kernel) ⟨rfl, rfl, rfl, rfl, trivial⟩) hS dX4_keepInto_16
set_option maxHeartbeats 4000000 in
set_option maxRecDepth 100000 in
theorem c_X4_tellLitre (l : Launch) (D : va_G) (cI cZ : ClassId) (ts : Nat → Nat) (so : Nat) (qc : Nat) (qp : Nat) (qd : Nat) (qh : Nat) (qt : Nat) (qo : Nat) (ro : Nat) (ys : Nat) (a0 : Nat) (a1 : Nat) (a2 : Nat) (a3 : Nat) (nn : Nat) (hh : Nat) (tt : Nat) (j : Nat) (wh : Int32) (o0 : Int32) (o1 : Int32) (o2 : Int32) (o3 : Int32) (f0 : Nat → Int32) (f1 : Nat → Int32) (f2 : Nat → Int32) (f3 : Nat → Int32) (fy : Nat → Int32) (hj : j < nn) (hn : nn ≤ 40) (hh1 : hh ≤ nn) (ht1 : tt ≤ nn) : zk_Mi l yX4_tellLitre wsX4_tellLitre ({ frames := 2, cells := 0, slots := 0, locals := 46 } : Room) D cI cZ ts [.ref so, .int (nI j), .int wh] [(so, .inr (4, [.ref qc, .ref qp, .ref qd, .ref qh, .ref qt, .ref qo, .ref ro, .ref ys, .int (nI hh), .int (nI tt)])), (qo, .inr (2, [.int o0, .int o1, .int o2, .int o3])), (ro, .inr (3, [.int (nI 40), .ref a0, .ref a1, .ref a2, .ref a3, .int (nI nn)])), (a0, .inl (cI, 40, .inl f0)), (a1, .inl (cI, 40, .inl f1)), (a2, .inl (cI, 40, .inl f2)), (a3, .inl (cI, 40, .inl f3)), (ys, .inl (cI, 40, .inl fy))] (fun (r : Int32) (u : Int32 × Int32 × Int32 × Int32) => r = (if wh = 4 then (if j < hh then 0 else if j < tt then 1 else 2) else if wh = 0 then fy j else zt wh (f0 j) (f1 j) (f2 j) (f3 j))) (fun (u : Int32 × Int32 × Int32 × Int32) => [(so, .inr (4, [.ref qc, .ref qp, .ref qd, .ref qh, .ref qt, .ref qo, .ref ro, .ref ys, .int (nI hh), .int (nI tt)])), (qo, .inr (2, [.int u.1, .int u.2.1, .int u.2.2.1, .int u.2.2.2])), (ro, .inr (3, [.int (nI 40), .ref a0, .ref a1, .ref a2, .ref a3, .int (nI nn)])), (a0, .inl (cI, 40, .inl f0)), (a1, .inl (cI, 40, .inl f1)), (a2, .inl (cI, 40, .inl f2)), (a3, .inl (cI, 40, .inl f3)), (ys, .inl (cI, 40, .inl fy))]) 0 0 := by
  refine zk_Mi.of (cc := cX4_tellLitre) (maxL := 3) RX4 (by decide) rfl (Nat.le_of_ble_eq_true rfl) rfl ?_
  intro p e s m below meth c A Q H locs ls X hE hA hP hD hS hret hl
  obtain ⟨hx, hb, hml, hown, hts⟩ := id X
  have hl : lv_has ls 3 [(0, .ref so), (1, .int (nI j)), (2, .int wh)] := hl
  refine lv_iload_n hx hb dX4_tellLitre_0 rfl (lv_at hl 2 rfl) ?_
  refine lv_iconst (v := 4) hx hb dX4_tellLitre_1 (by decide) ?_
  refine lv_icmp_ne (tgt := 31) hx hb dX4_tellLitre_2 (by decide) (fun c_2 => ?_) (fun c_2 => ?_)
  · refine lv_iload_n hx hb dX4_tellLitre_31 rfl (lv_at hl 2 rfl) ?_
    refine lv_if_ne (tgt := 56) hx hb dX4_tellLitre_32 (by decide) (fun c_32 => ?_) (fun c_32 => ?_)
    · refine lv_aload_n hx hb dX4_tellLitre_56 rfl (lv_at hl 0 rfl) ?_
      refine zk_get X hE sX4_tellLitre_57 hP 0 rfl rfl ?_
      refine lv_iload_n hx hb dX4_tellLitre_60 rfl (lv_at hl 1 rfl) ?_
      refine lv_aload_n hx hb dX4_tellLitre_61 rfl (lv_at hl 0 rfl) ?_
      refine zk_get X hE sX4_tellLitre_62 hP 0 rfl rfl ?_
      refine zk_cVv (rest := []) (wr := [(so, .inr (4, [.ref qc, .ref qp, .ref qd, .ref qh, .ref qt, .ref qo, .ref ro, .ref ys, .int (nI hh), .int (nI tt)])), (ys, .inl (cI, 40, .inl fy))]) X hE hA (c_X3_load l D cI cZ ts ro a0 a1 a2 a3 40 nn j qo f0 f1 f2 f3 o0 o1 o2 o3 (by first | assumption | omega) (by first | assumption | omega) (by first | assumption | omega)) (cwV 2 hts gX4_tellLitre_X3_load rfl rfl rfl hdX3_load ⟨Nat.le_of_ble_eq_true rfl, Nat.le_of_ble_eq_true rfl⟩) dX4_tellLitre_65 hP hD hS [2, 3, 4, 5, 6, 1] [0, 7] ⟨rfl, rfl, rfl, rfl, rfl, rfl, trivial⟩ ⟨rfl, rfl, trivial⟩ (by decide +kernel) (by decide +kernel) (by decide +kernel) 3 rfl rfl rfl hl rfl (Nat.le_of_ble_eq_true rfl) ⟨Nat.le_of_ble_eq_true rfl, Nat.le_of_ble_eq_true rfl⟩ (fun _ H locs hw_65 hP hD hS => ?_)
      have hP : va_P D vwCl [(so, .inr (4, [.ref qc, .ref qp, .ref qd, .ref qh, .ref qt, .ref qo, .ref ro, .ref ys, .int (nI hh), .int (nI tt)])), (ys, .inl (cI, 40, .inl fy)), (ro, .inr (3, [.int (nI 40), .ref a0, .ref a1, .ref a2, .ref a3, .int (nI nn)])), (a0, .inl (cI, 40, .inl f0)), (a1, .inl (cI, 40, .inl f1)), (a2, .inl (cI, 40, .inl f2)), (a3, .inl (cI, 40, .inl f3)), (qo, .inr (2, [.int (f0 j), .int (f1 j), .int (f2 j), .int (f3 j)]))] H := hP
      have hD : va_D A [(so, .inr (4, [.ref qc, .ref qp, .ref qd, .ref qh, .ref qt, .ref qo, .ref ro, .ref ys, .int (nI hh), .int (nI tt)])), (ys, .inl (cI, 40, .inl fy)), (ro, .inr (3, [.int (nI 40), .ref a0, .ref a1, .ref a2, .ref a3, .int (nI nn)])), (a0, .inl (cI, 40, .inl f0)), (a1, .inl (cI, 40, .inl f1)), (a2, .inl (cI, 40, .inl f2)), (a3, .inl (cI, 40, .inl f3)), (qo, .inr (2, [.int (f0 j), .int (f1 j), .int (f2 j), .int (f3 j)]))] := hD
      refine lv_aload_n hx hb dX4_tellLitre_68 rfl (lv_at hl 0 rfl) ?_
      refine zk_get X hE sX4_tellLitre_69 hP 0 rfl rfl ?_
      refine lv_iload_n hx hb dX4_tellLitre_72 rfl (lv_at hl 2 rfl) ?_
      refine zk_cVi (rest := []) (wr := [(so, .inr (4, [.ref qc, .ref qp, .ref qd, .ref qh, .ref qt, .ref qo, .ref ro, .ref ys, .int (nI hh), .int (nI tt)])), (ys, .inl (cI, 40, .inl fy)), (ro, .inr (3, [.int (nI 40), .ref a0, .ref a1, .ref a2, .ref a3, .int (nI nn)])), (a0, .inl (cI, 40, .inl f0)), (a1, .inl (cI, 40, .inl f1)), (a2, .inl (cI, 40, .inl f2)), (a3, .inl (cI, 40, .inl f3))]) X hE hA (c_X2_tell l D cI cZ ts qo (f0 j) (f1 j) (f2 j) (f3 j) wh) (cwV 1 hts gX4_tellLitre_X2_tell rfl rfl rfl hdX2_tell ⟨Nat.le_of_ble_eq_true rfl, Nat.le_of_ble_eq_true rfl⟩) dX4_tellLitre_73 hP hD hS [7] [0, 1, 2, 3, 4, 5, 6] ⟨rfl, trivial⟩ ⟨rfl, rfl, rfl, rfl, rfl, rfl, rfl, trivial⟩ (by decide +kernel) (by decide +kernel) (by decide +kernel) 2 rfl rfl rfl hl rfl (Nat.le_of_ble_eq_true rfl) ⟨Nat.le_of_ble_eq_true rfl, Nat.le_of_ble_eq_true rfl⟩ (fun r_73 _ H locs hw_73 hP hD hS => ?_)
      have hP : va_P D vwCl [(so, .inr (4, [.ref qc, .ref qp, .ref qd, .ref qh, .ref qt, .ref qo, .ref ro, .ref ys, .int (nI hh), .int (nI tt)])), (ys, .inl (cI, 40, .inl fy)), (ro, .inr (3, [.int (nI 40), .ref a0, .ref a1, .ref a2, .ref a3, .int (nI nn)])), (a0, .inl (cI, 40, .inl f0)), (a1, .inl (cI, 40, .inl f1)), (a2, .inl (cI, 40, .inl f2)), (a3, .inl (cI, 40, .inl f3)), (qo, .inr (2, [.int (f0 j), .int (f1 j), .int (f2 j), .int (f3 j)]))] H := hP
      have hD : va_D A [(so, .inr (4, [.ref qc, .ref qp, .ref qd, .ref qh, .ref qt, .ref qo, .ref ro, .ref ys, .int (nI hh), .int (nI tt)])), (ys, .inl (cI, 40, .inl fy)), (ro, .inr (3, [.int (nI 40), .ref a0, .ref a1, .ref a2, .ref a3, .int (nI nn)])), (a0, .inl (cI, 40, .inl f0)), (a1, .inl (cI, 40, .inl f1)), (a2, .inl (cI, 40, .inl f2)), (a3, .inl (cI, 40, .inl f3)), (qo, .inr (2, [.int (f0 j), .int (f1 j), .int (f2 j), .int (f3 j)]))] := hD
      obtain rfl : r_73 = (zt wh (f0 j) (f1 j) (f2 j) (f3 j)) := hw_73
      have hq := hret (zt wh (f0 j) (f1 j) (f2 j) (f3 j)) (f0 j, f1 j, f2 j, f3 j) H locs 76 ls
      dsimp only at hq
      exact hq (by (try dsimp only); rw [if_neg c_2, if_neg c_32]) (zk_subP hP [0, 7, 2, 3, 4, 5, 6, 1] ⟨rfl, rfl, rfl, rfl, rfl, rfl, rfl, rfl, trivial⟩) (zk_subD hD [0, 7, 2, 3, 4, 5, 6, 1] (by decide +kernel) ⟨rfl, rfl, rfl, rfl, rfl, rfl, rfl, rfl, trivial⟩) hS dX4_tellLitre_76
    · refine lv_iload_n hx hb dX4_tellLitre_35 rfl (lv_at hl 1 rfl) ?_
      refine lv_if_lt (tgt := 54) hx hb dX4_tellLitre_36 (by decide) (fun c_36 => absurd c_36 (nI_pos (by omega))) (fun c_36 => ?_)
      refine lv_iload_n hx hb dX4_tellLitre_39 rfl (lv_at hl 1 rfl) ?_
      refine lv_bipush (v := 40) hx hb dX4_tellLitre_40 (by decide) ?_
      refine lv_icmp_ge (tgt := 54) hx hb dX4_tellLitre_42 (by decide) (fun c_42 => absurd c_42 (nI_ge (b := 40) (show j < 40 by omega) (by decide))) (fun c_42 => ?_)
      refine lv_aload_n hx hb dX4_tellLitre_45 rfl (lv_at hl 0 rfl) ?_
      refine zk_get X hE sX4_tellLitre_46 hP 0 rfl rfl ?_
      refine lv_iload_n hx hb dX4_tellLitre_49 rfl (lv_at hl 1 rfl) ?_
      refine zk_ald hx hb hE hP 7 j rfl rfl (by omega) (Nat.le_of_ble_eq_true rfl) dX4_tellLitre_50 ?_
      refine lv_goto (tgt := 55) hx hb dX4_tellLitre_51 (by decide) ?_
      have hq := hret (fy j) (o0, o1, o2, o3) H locs 55 ls
      dsimp only at hq
      exact hq (by (try dsimp only); rw [if_neg c_2, if_pos c_32]) hP hD hS dX4_tellLitre_55
  · refine lv_iload_n hx hb dX4_tellLitre_5 rfl (lv_at hl 1 rfl) ?_
    refine lv_aload_n hx hb dX4_tellLitre_6 rfl (lv_at hl 0 rfl) ?_
    refine zk_get X hE sX4_tellLitre_7 hP 0 rfl rfl ?_
    refine lv_icmp_ge (tgt := 17) hx hb dX4_tellLitre_10 (by decide) (fun c_10 => ?_) (fun c_10 => ?_)
    · have h10 := zn_le c_10 (by omega) (by omega)
      refine lv_iload_n hx hb dX4_tellLitre_17 rfl (lv_at hl 1 rfl) ?_
      refine lv_aload_n hx hb dX4_tellLitre_18 rfl (lv_at hl 0 rfl) ?_
      refine zk_get X hE sX4_tellLitre_19 hP 0 rfl rfl ?_
      refine lv_icmp_ge (tgt := 29) hx hb dX4_tellLitre_22 (by decide) (fun c_22 => ?_) (fun c_22 => ?_)
      · have h22 := zn_le c_22 (by omega) (by omega)
        refine lv_iconst (v := 2) hx hb dX4_tellLitre_29 (by decide) ?_
        have hq := hret 2 (o0, o1, o2, o3) H locs 30 ls
        dsimp only at hq
        exact hq (by (try dsimp only); rw [if_pos c_2]; first | rw [if_pos h10] | rw [if_neg (by omega), if_pos h22] | rw [if_neg (by omega), if_neg (by omega)]) hP hD hS dX4_tellLitre_30
      · have h22 := zn_nle c_22 (by omega)
        refine lv_iconst (v := 1) hx hb dX4_tellLitre_25 (by decide) ?_
        refine lv_goto (tgt := 30) hx hb dX4_tellLitre_26 (by decide) ?_
        have hq := hret 1 (o0, o1, o2, o3) H locs 30 ls
        dsimp only at hq
        exact hq (by (try dsimp only); rw [if_pos c_2]; first | rw [if_pos h10] | rw [if_neg (by omega), if_pos h22] | rw [if_neg (by omega), if_neg (by omega)]) hP hD hS dX4_tellLitre_30
    · have h10 := zn_nle c_10 (by omega)
      refine lv_iconst (v := 0) hx hb dX4_tellLitre_13 (by decide) ?_
      refine lv_goto (tgt := 30) hx hb dX4_tellLitre_14 (by decide) ?_
      have hq := hret 0 (o0, o1, o2, o3) H locs 30 ls
      dsimp only at hq
      exact hq (by (try dsimp only); rw [if_pos c_2]; first | rw [if_pos h10] | rw [if_neg (by omega), if_pos h22] | rw [if_neg (by omega), if_neg (by omega)]) hP hD hS dX4_tellLitre_30
set_option maxHeartbeats 4000000 in
set_option maxRecDepth 100000 in
theorem c_X4_liquidOf (l : Launch) (D : va_G) (cI cZ : ClassId) (ts : Nat → Nat) (so : Nat) (qc : Nat) (qp : Nat) (qd : Nat) (qh : Nat) (qt : Nat) (qo : Nat) (ro : Nat) (ys : Nat) (e1 : Int32) (e2 : Int32) (wh : Int32)  : zk_Mr l yX4_liquidOf wsX4_liquidOf ({ frames := 0, cells := 0, slots := 0, locals := 0 } : Room) D cI cZ ts [.ref so, .int wh] [(so, .inr (4, [.ref qc, .ref qp, .ref qd, .ref qh, .ref qt, .ref qo, .ref ro, .ref ys, .int e1, .int e2]))] (fun (r : Nat) (_ : Unit) => r = (if wh = 0 then qc else if wh = 1 then qd else if wh = 2 then qh else if wh = 3 then qt else qp)) (fun (_ : Unit) => [(so, .inr (4, [.ref qc, .ref qp, .ref qd, .ref qh, .ref qt, .ref qo, .ref ro, .ref ys, .int e1, .int e2]))]) 0 0 := by
  refine zk_Mr.of (cc := cX4_liquidOf) (maxL := 2) RX4 (by decide) rfl (Nat.le_of_ble_eq_true rfl) rfl ?_
  intro p e s m below meth c A Q H locs ls X hE hA hP hD hS hret hl
  obtain ⟨hx, hb, hml, hown, hts⟩ := id X
  have hl : lv_has ls 2 [(0, .ref so), (1, .int wh)] := hl
  refine lv_iload_n hx hb dX4_liquidOf_0 rfl (lv_at hl 1 rfl) ?_
  by_cases h_1_0 : wh = 0
  · refine zk_top h_1_0 ?_
    refine lv_tableIn (tgt := 32) hx hb dX4_liquidOf_1 (by decide) (by decide) rfl (by decide) ?_
    refine lv_aload_n hx hb dX4_liquidOf_32 rfl (lv_at hl 0 rfl) ?_
    refine zk_get X hE sX4_liquidOf_33 hP 0 rfl rfl ?_
    exact hret qc () H locs 36 ls (by simp [h_1_0]) hP hD hS dX4_liquidOf_36
  by_cases h_1_1 : wh = 1
  · refine zk_top h_1_1 ?_
    refine lv_tableIn (tgt := 37) hx hb dX4_liquidOf_1 (by decide) (by decide) rfl (by decide) ?_
    refine lv_aload_n hx hb dX4_liquidOf_37 rfl (lv_at hl 0 rfl) ?_
    refine zk_get X hE sX4_liquidOf_38 hP 0 rfl rfl ?_
    exact hret qd () H locs 41 ls (by simp [h_1_0, h_1_1]) hP hD hS dX4_liquidOf_41
  by_cases h_1_2 : wh = 2
  · refine zk_top h_1_2 ?_
    refine lv_tableIn (tgt := 42) hx hb dX4_liquidOf_1 (by decide) (by decide) rfl (by decide) ?_
    refine lv_aload_n hx hb dX4_liquidOf_42 rfl (lv_at hl 0 rfl) ?_
    refine zk_get X hE sX4_liquidOf_43 hP 0 rfl rfl ?_
    exact hret qh () H locs 46 ls (by simp [h_1_0, h_1_1, h_1_2]) hP hD hS dX4_liquidOf_46
  by_cases h_1_3 : wh = 3
  · refine zk_top h_1_3 ?_
    refine lv_tableIn (tgt := 47) hx hb dX4_liquidOf_1 (by decide) (by decide) rfl (by decide) ?_
    refine lv_aload_n hx hb dX4_liquidOf_47 rfl (lv_at hl 0 rfl) ?_
    refine zk_get X hE sX4_liquidOf_48 hP 0 rfl rfl ?_
    exact hret qt () H locs 51 ls (by simp [h_1_0, h_1_1, h_1_2, h_1_3]) hP hD hS dX4_liquidOf_51
  refine lv_tableOut (tgt := 52) hx hb dX4_liquidOf_1 (by have z0 := lv_neT (a := 0) h_1_0 (by decide); have z1 := lv_neT (a := 1) h_1_1 (by decide); have z2 := lv_neT (a := 2) h_1_2 (by decide); have z3 := lv_neT (a := 3) h_1_3 (by decide); omega) (by decide) ?_
  refine lv_aload_n hx hb dX4_liquidOf_52 rfl (lv_at hl 0 rfl) ?_
  refine zk_get X hE sX4_liquidOf_53 hP 0 rfl rfl ?_
  exact hret qp () H locs 56 ls (by simp [h_1_0, h_1_1, h_1_2, h_1_3]) hP hD hS dX4_liquidOf_56
