set_option maxHeartbeats 4000000 in
set_option maxRecDepth 100000 in
theorem c_X0_weigh (l : Launch) (D : va_G) (cI cZ : ClassId) (ts : Nat → Nat) (co : Nat) (qh : Nat) (b : Nat → Int32) (h : Nat → Int32) (bf : Int32) (bc : Int32) (lim : Int32)  : zk_Mv l yX0_weigh wsX0_weigh ({ frames := 2, cells := 0, slots := 0, locals := 42 } : Room) D cI cZ ts [.ref co, .int bf, .int bc, .ref qh, .int lim] [(co, .inr (0, [.int (b 0), .int (b 1), .int (b 2), .int (b 3), .int (b 4)])), (qh, .inr (2, [.int (h 0), .int (h 1), .int (h 2), .int (h 3)]))] (fun (u : Int32 × Int32 × Int32 × Int32 × Int32) => u.1 = zw b h bf bc lim 0 ∧ u.2.1 = zw b h bf bc lim 1 ∧ u.2.2.1 = zw b h bf bc lim 2 ∧ u.2.2.2.1 = zw b h bf bc lim 3 ∧ u.2.2.2.2 = zw b h bf bc lim 4) (fun (u : Int32 × Int32 × Int32 × Int32 × Int32) => [(co, .inr (0, [.int u.1, .int u.2.1, .int u.2.2.1, .int u.2.2.2.1, .int u.2.2.2.2])), (qh, .inr (2, [.int (h 0), .int (h 1), .int (h 2), .int (h 3)]))]) 0 0 := by
  refine zk_Mv.of (cc := cX0_weigh) (maxL := 5) RX0 (by decide) rfl (Nat.le_of_ble_eq_true rfl) rfl ?_
  intro p e s m below meth c A Q H locs ls X hE hA hin hP hD hS hret hl
  obtain ⟨hx, hb, hml, hown, hts⟩ := id X
  have hl : lv_has ls 5 [(0, .ref co), (1, .int bf), (2, .int bc), (3, .ref qh), (4, .int lim)] := hl
  refine lv_aload_n hx hb dX0_weigh_0 rfl (lv_at hl 3 rfl) ?_
  refine zk_get X hE sX0_weigh_1 hP 1 rfl rfl ?_
  refine lv_iconst (v := 1) hx hb dX0_weigh_4 (by decide) ?_
  refine lv_icmp_lt (tgt := 18) hx hb dX0_weigh_5 (by decide) (fun c_5 => ?_) (fun c_5 => ?_)
  · have hq := hret  (b 0, b 1, b 2, b 3, b 4) H locs 18 ls
    dsimp only at hq
    exact hq (by (try dsimp only); unfold zw; first | (rw [if_pos (Or.inl c_5)]; exact ⟨rfl, rfl, rfl, rfl, rfl⟩) | (rw [if_pos (Or.inr h15)]; exact ⟨rfl, rfl, rfl, rfl, rfl⟩)) hP hD hS dX0_weigh_18
  · refine lv_aload_n hx hb dX0_weigh_8 rfl (lv_at hl 3 rfl) ?_
    refine lv_iconst (v := 5) hx hb dX0_weigh_9 (by decide) ?_
    refine zk_cVi (rest := []) (wr := [(co, .inr (0, [.int (b 0), .int (b 1), .int (b 2), .int (b 3), .int (b 4)]))]) X hE hA (c_X2_tell l D cI cZ ts qh (h 0) (h 1) (h 2) (h 3) 5) (cwV 1 hts gX0_weigh_X2_tell rfl rfl rfl hdX2_tell ⟨Nat.le_of_ble_eq_true rfl, Nat.le_of_ble_eq_true rfl⟩) dX0_weigh_10 hP hD hS [1] [0] ⟨rfl, trivial⟩ ⟨rfl, trivial⟩ (by decide +kernel) (by decide +kernel) (by decide +kernel) 2 rfl rfl rfl hl rfl (Nat.le_of_ble_eq_true rfl) ⟨Nat.le_of_ble_eq_true rfl, Nat.le_of_ble_eq_true rfl⟩ (fun r_10 _ H locs hw_10 hP hD hS => ?_)
    have hP : va_P D vwCl [(co, .inr (0, [.int (b 0), .int (b 1), .int (b 2), .int (b 3), .int (b 4)])), (qh, .inr (2, [.int (h 0), .int (h 1), .int (h 2), .int (h 3)]))] H := hP
    have hD : va_D A [(co, .inr (0, [.int (b 0), .int (b 1), .int (b 2), .int (b 3), .int (b 4)])), (qh, .inr (2, [.int (h 0), .int (h 1), .int (h 2), .int (h 3)]))] := hD
    obtain rfl : r_10 = (zt 5 (h 0) (h 1) (h 2) (h 3)) := hw_10
    refine lv_iload hx hb dX0_weigh_13 (lv_at hl 4 rfl) ?_
    refine lv_icmp_le (tgt := 19) hx hb dX0_weigh_15 (by decide) (fun c_15 => ?_) (fun c_15 => ?_)
    · have h15 : zq (h 2 + h 3) (h 0) ≤ lim := c_15
      refine lv_aload_n hx hb dX0_weigh_19 rfl (lv_at hl 0 rfl) ?_
      refine lv_dup hx hb dX0_weigh_20 rfl ?_
      refine zk_get X hE sX0_weigh_21 hP 0 rfl rfl ?_
      refine lv_iconst (v := 1) hx hb dX0_weigh_24 (by decide) ?_
      refine lv_iadd hx hb dX0_weigh_25 ?_
      refine zk_put (ws' := [(co, .inr (0, [.int ((b 0) + 1), .int (b 1), .int (b 2), .int (b 3), .int (b 4)])), (qh, .inr (2, [.int (h 0), .int (h 1), .int (h 2), .int (h 3)]))]) X hE sX0_weigh_26 hP hD hS 0 rfl (Nat.le_of_ble_eq_true rfl) rfl (fun H locs hP hD hS => ?_)
      refine lv_aload_n hx hb dX0_weigh_29 rfl (lv_at hl 0 rfl) ?_
      refine zk_get X hE sX0_weigh_30 hP 0 rfl rfl ?_
      refine lv_iconst (v := 1) hx hb dX0_weigh_33 (by decide) ?_
      refine lv_icmp_eq (tgt := 48) hx hb dX0_weigh_34 (by decide) (fun c_34 => ?_) (fun c_34 => ?_)
      · refine lv_aload_n hx hb dX0_weigh_48 rfl (lv_at hl 0 rfl) ?_
        refine lv_iload_n hx hb dX0_weigh_49 rfl (lv_at hl 1 rfl) ?_
        refine zk_put (ws' := [(co, .inr (0, [.int ((b 0) + 1), .int bf, .int (b 2), .int (b 3), .int (b 4)])), (qh, .inr (2, [.int (h 0), .int (h 1), .int (h 2), .int (h 3)]))]) X hE sX0_weigh_50 hP hD hS 0 rfl (Nat.le_of_ble_eq_true rfl) rfl (fun H locs hP hD hS => ?_)
        refine lv_aload_n hx hb dX0_weigh_53 rfl (lv_at hl 0 rfl) ?_
        refine lv_iload_n hx hb dX0_weigh_54 rfl (lv_at hl 2 rfl) ?_
        refine zk_put (ws' := [(co, .inr (0, [.int ((b 0) + 1), .int bf, .int bc, .int (b 3), .int (b 4)])), (qh, .inr (2, [.int (h 0), .int (h 1), .int (h 2), .int (h 3)]))]) X hE sX0_weigh_55 hP hD hS 0 rfl (Nat.le_of_ble_eq_true rfl) rfl (fun H locs hP hD hS => ?_)
        refine lv_aload_n hx hb dX0_weigh_58 rfl (lv_at hl 0 rfl) ?_
        refine lv_aload_n hx hb dX0_weigh_59 rfl (lv_at hl 3 rfl) ?_
        refine zk_get X hE sX0_weigh_60 hP 1 rfl rfl ?_
        refine zk_put (ws' := [(co, .inr (0, [.int ((b 0) + 1), .int bf, .int bc, .int (h 1), .int (b 4)])), (qh, .inr (2, [.int (h 0), .int (h 1), .int (h 2), .int (h 3)]))]) X hE sX0_weigh_63 hP hD hS 0 rfl (Nat.le_of_ble_eq_true rfl) rfl (fun H locs hP hD hS => ?_)
        refine lv_aload_n hx hb dX0_weigh_66 rfl (lv_at hl 0 rfl) ?_
        refine lv_aload_n hx hb dX0_weigh_67 rfl (lv_at hl 3 rfl) ?_
        refine lv_iconst (v := 5) hx hb dX0_weigh_68 (by decide) ?_
        refine zk_cVi (rest := [.ref co]) (wr := [(co, .inr (0, [.int ((b 0) + 1), .int bf, .int bc, .int (h 1), .int (b 4)]))]) X hE hA (c_X2_tell l D cI cZ ts qh (h 0) (h 1) (h 2) (h 3) 5) (cwV 1 hts gX0_weigh_X2_tell rfl rfl rfl hdX2_tell ⟨Nat.le_of_ble_eq_true rfl, Nat.le_of_ble_eq_true rfl⟩) dX0_weigh_69 hP hD hS [1] [0] ⟨rfl, trivial⟩ ⟨rfl, trivial⟩ (by decide +kernel) (by decide +kernel) (by decide +kernel) 2 rfl rfl rfl hl rfl (Nat.le_of_ble_eq_true rfl) ⟨Nat.le_of_ble_eq_true rfl, Nat.le_of_ble_eq_true rfl⟩ (fun r_69 _ H locs hw_69 hP hD hS => ?_)
        have hP : va_P D vwCl [(co, .inr (0, [.int ((b 0) + 1), .int bf, .int bc, .int (h 1), .int (b 4)])), (qh, .inr (2, [.int (h 0), .int (h 1), .int (h 2), .int (h 3)]))] H := hP
        have hD : va_D A [(co, .inr (0, [.int ((b 0) + 1), .int bf, .int bc, .int (h 1), .int (b 4)])), (qh, .inr (2, [.int (h 0), .int (h 1), .int (h 2), .int (h 3)]))] := hD
        obtain rfl : r_69 = (zt 5 (h 0) (h 1) (h 2) (h 3)) := hw_69
        refine zk_put (ws' := [(co, .inr (0, [.int ((b 0) + 1), .int bf, .int bc, .int (h 1), .int (zt 5 (h 0) (h 1) (h 2) (h 3))])), (qh, .inr (2, [.int (h 0), .int (h 1), .int (h 2), .int (h 3)]))]) X hE sX0_weigh_72 hP hD hS 0 rfl (Nat.le_of_ble_eq_true rfl) rfl (fun H locs hP hD hS => ?_)
        have hq := hret  ((b 0) + 1, bf, bc, h 1, zt 5 (h 0) (h 1) (h 2) (h 3)) H locs 75 ls
        dsimp only at hq
        exact hq (by (try dsimp only); unfold zw; rw [if_neg (fun q => q.elim c_5 (zi_nlt h15))]; first | (rw [if_pos (Or.inl c_34)]; exact ⟨rfl, rfl, rfl, rfl, rfl⟩) | (rw [if_pos (Or.inr (zi_lt c_45))]; exact ⟨rfl, rfl, rfl, rfl, rfl⟩) | (rw [if_neg (fun q => q.elim c_34 (zi_nlt c_45))]; exact ⟨rfl, rfl, rfl, rfl, rfl⟩)) hP hD hS dX0_weigh_75
      · refine lv_aload_n hx hb dX0_weigh_37 rfl (lv_at hl 3 rfl) ?_
        refine zk_get X hE sX0_weigh_38 hP 1 rfl rfl ?_
        refine lv_aload_n hx hb dX0_weigh_41 rfl (lv_at hl 0 rfl) ?_
        refine zk_get X hE sX0_weigh_42 hP 0 rfl rfl ?_
        refine lv_icmp_le (tgt := 75) hx hb dX0_weigh_45 (by decide) (fun c_45 => ?_) (fun c_45 => ?_)
        · have hq := hret  ((b 0) + 1, b 1, b 2, b 3, b 4) H locs 75 ls
          dsimp only at hq
          exact hq (by (try dsimp only); unfold zw; rw [if_neg (fun q => q.elim c_5 (zi_nlt h15))]; first | (rw [if_pos (Or.inl c_34)]; exact ⟨rfl, rfl, rfl, rfl, rfl⟩) | (rw [if_pos (Or.inr (zi_lt c_45))]; exact ⟨rfl, rfl, rfl, rfl, rfl⟩) | (rw [if_neg (fun q => q.elim c_34 (zi_nlt c_45))]; exact ⟨rfl, rfl, rfl, rfl, rfl⟩)) hP hD hS dX0_weigh_75
        · refine lv_aload_n hx hb dX0_weigh_48 rfl (lv_at hl 0 rfl) ?_
          refine lv_iload_n hx hb dX0_weigh_49 rfl (lv_at hl 1 rfl) ?_
          refine zk_put (ws' := [(co, .inr (0, [.int ((b 0) + 1), .int bf, .int (b 2), .int (b 3), .int (b 4)])), (qh, .inr (2, [.int (h 0), .int (h 1), .int (h 2), .int (h 3)]))]) X hE sX0_weigh_50 hP hD hS 0 rfl (Nat.le_of_ble_eq_true rfl) rfl (fun H locs hP hD hS => ?_)
          refine lv_aload_n hx hb dX0_weigh_53 rfl (lv_at hl 0 rfl) ?_
          refine lv_iload_n hx hb dX0_weigh_54 rfl (lv_at hl 2 rfl) ?_
          refine zk_put (ws' := [(co, .inr (0, [.int ((b 0) + 1), .int bf, .int bc, .int (b 3), .int (b 4)])), (qh, .inr (2, [.int (h 0), .int (h 1), .int (h 2), .int (h 3)]))]) X hE sX0_weigh_55 hP hD hS 0 rfl (Nat.le_of_ble_eq_true rfl) rfl (fun H locs hP hD hS => ?_)
          refine lv_aload_n hx hb dX0_weigh_58 rfl (lv_at hl 0 rfl) ?_
          refine lv_aload_n hx hb dX0_weigh_59 rfl (lv_at hl 3 rfl) ?_
          refine zk_get X hE sX0_weigh_60 hP 1 rfl rfl ?_
          refine zk_put (ws' := [(co, .inr (0, [.int ((b 0) + 1), .int bf, .int bc, .int (h 1), .int (b 4)])), (qh, .inr (2, [.int (h 0), .int (h 1), .int (h 2), .int (h 3)]))]) X hE sX0_weigh_63 hP hD hS 0 rfl (Nat.le_of_ble_eq_true rfl) rfl (fun H locs hP hD hS => ?_)
          refine lv_aload_n hx hb dX0_weigh_66 rfl (lv_at hl 0 rfl) ?_
          refine lv_aload_n hx hb dX0_weigh_67 rfl (lv_at hl 3 rfl) ?_
          refine lv_iconst (v := 5) hx hb dX0_weigh_68 (by decide) ?_
          refine zk_cVi (rest := [.ref co]) (wr := [(co, .inr (0, [.int ((b 0) + 1), .int bf, .int bc, .int (h 1), .int (b 4)]))]) X hE hA (c_X2_tell l D cI cZ ts qh (h 0) (h 1) (h 2) (h 3) 5) (cwV 1 hts gX0_weigh_X2_tell rfl rfl rfl hdX2_tell ⟨Nat.le_of_ble_eq_true rfl, Nat.le_of_ble_eq_true rfl⟩) dX0_weigh_69 hP hD hS [1] [0] ⟨rfl, trivial⟩ ⟨rfl, trivial⟩ (by decide +kernel) (by decide +kernel) (by decide +kernel) 2 rfl rfl rfl hl rfl (Nat.le_of_ble_eq_true rfl) ⟨Nat.le_of_ble_eq_true rfl, Nat.le_of_ble_eq_true rfl⟩ (fun r_69 _ H locs hw_69 hP hD hS => ?_)
          have hP : va_P D vwCl [(co, .inr (0, [.int ((b 0) + 1), .int bf, .int bc, .int (h 1), .int (b 4)])), (qh, .inr (2, [.int (h 0), .int (h 1), .int (h 2), .int (h 3)]))] H := hP
          have hD : va_D A [(co, .inr (0, [.int ((b 0) + 1), .int bf, .int bc, .int (h 1), .int (b 4)])), (qh, .inr (2, [.int (h 0), .int (h 1), .int (h 2), .int (h 3)]))] := hD
          obtain rfl : r_69 = (zt 5 (h 0) (h 1) (h 2) (h 3)) := hw_69
          refine zk_put (ws' := [(co, .inr (0, [.int ((b 0) + 1), .int bf, .int bc, .int (h 1), .int (zt 5 (h 0) (h 1) (h 2) (h 3))])), (qh, .inr (2, [.int (h 0), .int (h 1), .int (h 2), .int (h 3)]))]) X hE sX0_weigh_72 hP hD hS 0 rfl (Nat.le_of_ble_eq_true rfl) rfl (fun H locs hP hD hS => ?_)
          have hq := hret  ((b 0) + 1, bf, bc, h 1, zt 5 (h 0) (h 1) (h 2) (h 3)) H locs 75 ls
          dsimp only at hq
          exact hq (by (try dsimp only); unfold zw; rw [if_neg (fun q => q.elim c_5 (zi_nlt h15))]; first | (rw [if_pos (Or.inl c_34)]; exact ⟨rfl, rfl, rfl, rfl, rfl⟩) | (rw [if_pos (Or.inr (zi_lt c_45))]; exact ⟨rfl, rfl, rfl, rfl, rfl⟩) | (rw [if_neg (fun q => q.elim c_34 (zi_nlt c_45))]; exact ⟨rfl, rfl, rfl, rfl, rfl⟩)) hP hD hS dX0_weigh_75
    · have h15 : lim < zq (h 2 + h 3) (h 0) := zi_lt c_15
      have hq := hret  (b 0, b 1, b 2, b 3, b 4) H locs 18 ls
      dsimp only at hq
      exact hq (by (try dsimp only); unfold zw; first | (rw [if_pos (Or.inl c_5)]; exact ⟨rfl, rfl, rfl, rfl, rfl⟩) | (rw [if_pos (Or.inr h15)]; exact ⟨rfl, rfl, rfl, rfl, rfl⟩)) hP hD hS dX0_weigh_18
set_option maxHeartbeats 4000000 in
set_option maxRecDepth 100000 in
theorem c_X0_tell (l : Launch) (D : va_G) (cI cZ : ClassId) (ts : Nat → Nat) (co : Nat) (v0 : Int32) (v1 : Int32) (v2 : Int32) (v3 : Int32) (v4 : Int32) (wh : Int32)  : zk_Mi l yX0_tell wsX0_tell ({ frames := 0, cells := 0, slots := 0, locals := 0 } : Room) D cI cZ ts [.ref co, .int wh] [(co, .inr (0, [.int v0, .int v1, .int v2, .int v3, .int v4]))] (fun (r : Int32) (_ : Unit) => r = (if wh = 0 then v1 else if wh = 1 then v2 else if wh = 2 then v3 else v4)) (fun (_ : Unit) => [(co, .inr (0, [.int v0, .int v1, .int v2, .int v3, .int v4]))]) 0 0 := by
  refine zk_Mi.of (cc := cX0_tell) (maxL := 2) RX0 (by decide) rfl (Nat.le_of_ble_eq_true rfl) rfl ?_
  intro p e s m below meth c A Q H locs ls X hE hA hP hD hS hret hl
  obtain ⟨hx, hb, hml, hown, hts⟩ := id X
  have hl : lv_has ls 2 [(0, .ref co), (1, .int wh)] := hl
  refine lv_iload_n hx hb dX0_tell_0 rfl (lv_at hl 1 rfl) ?_
  by_cases h_1_0 : wh = 0
  · refine zk_top h_1_0 ?_
    refine lv_tableIn (tgt := 28) hx hb dX0_tell_1 (by decide) (by decide) rfl (by decide) ?_
    refine lv_aload_n hx hb dX0_tell_28 rfl (lv_at hl 0 rfl) ?_
    refine zk_get X hE sX0_tell_29 hP 0 rfl rfl ?_
    exact hret v1 () H locs 32 ls (by simp [h_1_0]) hP hD hS dX0_tell_32
  by_cases h_1_1 : wh = 1
  · refine zk_top h_1_1 ?_
    refine lv_tableIn (tgt := 33) hx hb dX0_tell_1 (by decide) (by decide) rfl (by decide) ?_
    refine lv_aload_n hx hb dX0_tell_33 rfl (lv_at hl 0 rfl) ?_
    refine zk_get X hE sX0_tell_34 hP 0 rfl rfl ?_
    exact hret v2 () H locs 37 ls (by simp [h_1_0, h_1_1]) hP hD hS dX0_tell_37
  by_cases h_1_2 : wh = 2
  · refine zk_top h_1_2 ?_
    refine lv_tableIn (tgt := 38) hx hb dX0_tell_1 (by decide) (by decide) rfl (by decide) ?_
    refine lv_aload_n hx hb dX0_tell_38 rfl (lv_at hl 0 rfl) ?_
    refine zk_get X hE sX0_tell_39 hP 0 rfl rfl ?_
    exact hret v3 () H locs 42 ls (by simp [h_1_0, h_1_1, h_1_2]) hP hD hS dX0_tell_42
  refine lv_tableOut (tgt := 43) hx hb dX0_tell_1 (by have z0 := lv_neT (a := 0) h_1_0 (by decide); have z1 := lv_neT (a := 1) h_1_1 (by decide); have z2 := lv_neT (a := 2) h_1_2 (by decide); omega) (by decide) ?_
  refine lv_aload_n hx hb dX0_tell_43 rfl (lv_at hl 0 rfl) ?_
  refine zk_get X hE sX0_tell_44 hP 0 rfl rfl ?_
  exact hret v4 () H locs 47 ls (by simp [h_1_0, h_1_1, h_1_2]) hP hD hS dX0_tell_47
