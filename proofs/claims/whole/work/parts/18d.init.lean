set_option maxHeartbeats 4000000 in
set_option maxRecDepth 100000 in
theorem c_X7_firstTold_0 (l : Launch) (D : va_G) (cI cZ : ClassId) (ts : Nat → Nat)   : zk_Mi l yX7_firstTold wsX7_firstTold ({ frames := 0, cells := 0, slots := 0, locals := 0 } : Room) D cI cZ ts [.int 0] [] (fun (r : Int32) (_ : Unit) => r = 0) (fun (_ : Unit) => []) 0 0 := by
  refine zk_Mi.of (cc := cX7_firstTold) (maxL := 1) RX7 (by decide) rfl (Nat.le_of_ble_eq_true rfl) rfl ?_
  intro p e s m below meth c A Q H locs ls X hE hA hP hD hS hret hl
  obtain ⟨hx, hb, hml, hown, hts⟩ := id X
  have hl : lv_has ls 1 [(0, .int 0)] := hl
  refine lv_iload_n hx hb dX7_firstTold_0 rfl (lv_at hl 0 rfl) ?_
  refine lv_tableIn (tgt := 56) hx hb dX7_firstTold_1 (by decide) (by decide) rfl (by decide) ?_
  refine lv_iconst (v := 0) hx hb dX7_firstTold_56 (by decide) ?_
  exact hret 0 () H locs 57 ls rfl hP hD hS dX7_firstTold_57
set_option maxHeartbeats 4000000 in
set_option maxRecDepth 100000 in
theorem c_X7_firstTold_1 (l : Launch) (D : va_G) (cI cZ : ClassId) (ts : Nat → Nat)   : zk_Mi l yX7_firstTold wsX7_firstTold ({ frames := 0, cells := 0, slots := 0, locals := 0 } : Room) D cI cZ ts [.int 1] [] (fun (r : Int32) (_ : Unit) => r = 450) (fun (_ : Unit) => []) 0 0 := by
  refine zk_Mi.of (cc := cX7_firstTold) (maxL := 1) RX7 (by decide) rfl (Nat.le_of_ble_eq_true rfl) rfl ?_
  intro p e s m below meth c A Q H locs ls X hE hA hP hD hS hret hl
  obtain ⟨hx, hb, hml, hown, hts⟩ := id X
  have hl : lv_has ls 1 [(0, .int 1)] := hl
  refine lv_iload_n hx hb dX7_firstTold_0 rfl (lv_at hl 0 rfl) ?_
  refine lv_tableIn (tgt := 58) hx hb dX7_firstTold_1 (by decide) (by decide) rfl (by decide) ?_
  refine lv_sipush (v := 450) hx hb dX7_firstTold_58 (by decide) ?_
  exact hret 450 () H locs 61 ls rfl hP hD hS dX7_firstTold_61
set_option maxHeartbeats 4000000 in
set_option maxRecDepth 100000 in
theorem c_X7_firstTold_2 (l : Launch) (D : va_G) (cI cZ : ClassId) (ts : Nat → Nat)   : zk_Mi l yX7_firstTold wsX7_firstTold ({ frames := 0, cells := 0, slots := 0, locals := 0 } : Room) D cI cZ ts [.int 2] [] (fun (r : Int32) (_ : Unit) => r = 600) (fun (_ : Unit) => []) 0 0 := by
  refine zk_Mi.of (cc := cX7_firstTold) (maxL := 1) RX7 (by decide) rfl (Nat.le_of_ble_eq_true rfl) rfl ?_
  intro p e s m below meth c A Q H locs ls X hE hA hP hD hS hret hl
  obtain ⟨hx, hb, hml, hown, hts⟩ := id X
  have hl : lv_has ls 1 [(0, .int 2)] := hl
  refine lv_iload_n hx hb dX7_firstTold_0 rfl (lv_at hl 0 rfl) ?_
  refine lv_tableIn (tgt := 62) hx hb dX7_firstTold_1 (by decide) (by decide) rfl (by decide) ?_
  refine lv_sipush (v := 600) hx hb dX7_firstTold_62 (by decide) ?_
  exact hret 600 () H locs 65 ls rfl hP hD hS dX7_firstTold_65
set_option maxHeartbeats 4000000 in
set_option maxRecDepth 100000 in
theorem c_X7_firstTold_3 (l : Launch) (D : va_G) (cI cZ : ClassId) (ts : Nat → Nat)   : zk_Mi l yX7_firstTold wsX7_firstTold ({ frames := 0, cells := 0, slots := 0, locals := 0 } : Room) D cI cZ ts [.int 3] [] (fun (r : Int32) (_ : Unit) => r = 690) (fun (_ : Unit) => []) 0 0 := by
  refine zk_Mi.of (cc := cX7_firstTold) (maxL := 1) RX7 (by decide) rfl (Nat.le_of_ble_eq_true rfl) rfl ?_
  intro p e s m below meth c A Q H locs ls X hE hA hP hD hS hret hl
  obtain ⟨hx, hb, hml, hown, hts⟩ := id X
  have hl : lv_has ls 1 [(0, .int 3)] := hl
  refine lv_iload_n hx hb dX7_firstTold_0 rfl (lv_at hl 0 rfl) ?_
  refine lv_tableIn (tgt := 66) hx hb dX7_firstTold_1 (by decide) (by decide) rfl (by decide) ?_
  refine lv_sipush (v := 690) hx hb dX7_firstTold_66 (by decide) ?_
  exact hret 690 () H locs 69 ls rfl hP hD hS dX7_firstTold_69
set_option maxHeartbeats 4000000 in
set_option maxRecDepth 100000 in
theorem c_X7_firstTold_4 (l : Launch) (D : va_G) (cI cZ : ClassId) (ts : Nat → Nat)   : zk_Mi l yX7_firstTold wsX7_firstTold ({ frames := 0, cells := 0, slots := 0, locals := 0 } : Room) D cI cZ ts [.int 4] [] (fun (r : Int32) (_ : Unit) => r = 740) (fun (_ : Unit) => []) 0 0 := by
  refine zk_Mi.of (cc := cX7_firstTold) (maxL := 1) RX7 (by decide) rfl (Nat.le_of_ble_eq_true rfl) rfl ?_
  intro p e s m below meth c A Q H locs ls X hE hA hP hD hS hret hl
  obtain ⟨hx, hb, hml, hown, hts⟩ := id X
  have hl : lv_has ls 1 [(0, .int 4)] := hl
  refine lv_iload_n hx hb dX7_firstTold_0 rfl (lv_at hl 0 rfl) ?_
  refine lv_tableIn (tgt := 70) hx hb dX7_firstTold_1 (by decide) (by decide) rfl (by decide) ?_
  refine lv_sipush (v := 740) hx hb dX7_firstTold_70 (by decide) ?_
  exact hret 740 () H locs 73 ls rfl hP hD hS dX7_firstTold_73
set_option maxHeartbeats 4000000 in
set_option maxRecDepth 100000 in
theorem c_X7_firstTold_5 (l : Launch) (D : va_G) (cI cZ : ClassId) (ts : Nat → Nat)   : zk_Mi l yX7_firstTold wsX7_firstTold ({ frames := 0, cells := 0, slots := 0, locals := 0 } : Room) D cI cZ ts [.int 5] [] (fun (r : Int32) (_ : Unit) => r = 780) (fun (_ : Unit) => []) 0 0 := by
  refine zk_Mi.of (cc := cX7_firstTold) (maxL := 1) RX7 (by decide) rfl (Nat.le_of_ble_eq_true rfl) rfl ?_
  intro p e s m below meth c A Q H locs ls X hE hA hP hD hS hret hl
  obtain ⟨hx, hb, hml, hown, hts⟩ := id X
  have hl : lv_has ls 1 [(0, .int 5)] := hl
  refine lv_iload_n hx hb dX7_firstTold_0 rfl (lv_at hl 0 rfl) ?_
  refine lv_tableIn (tgt := 74) hx hb dX7_firstTold_1 (by decide) (by decide) rfl (by decide) ?_
  refine lv_sipush (v := 780) hx hb dX7_firstTold_74 (by decide) ?_
  exact hret 780 () H locs 77 ls rfl hP hD hS dX7_firstTold_77
set_option maxHeartbeats 4000000 in
set_option maxRecDepth 100000 in
theorem c_X7_firstTold_6 (l : Launch) (D : va_G) (cI cZ : ClassId) (ts : Nat → Nat)   : zk_Mi l yX7_firstTold wsX7_firstTold ({ frames := 0, cells := 0, slots := 0, locals := 0 } : Room) D cI cZ ts [.int 6] [] (fun (r : Int32) (_ : Unit) => r = 820) (fun (_ : Unit) => []) 0 0 := by
  refine zk_Mi.of (cc := cX7_firstTold) (maxL := 1) RX7 (by decide) rfl (Nat.le_of_ble_eq_true rfl) rfl ?_
  intro p e s m below meth c A Q H locs ls X hE hA hP hD hS hret hl
  obtain ⟨hx, hb, hml, hown, hts⟩ := id X
  have hl : lv_has ls 1 [(0, .int 6)] := hl
  refine lv_iload_n hx hb dX7_firstTold_0 rfl (lv_at hl 0 rfl) ?_
  refine lv_tableIn (tgt := 78) hx hb dX7_firstTold_1 (by decide) (by decide) rfl (by decide) ?_
  refine lv_sipush (v := 820) hx hb dX7_firstTold_78 (by decide) ?_
  exact hret 820 () H locs 81 ls rfl hP hD hS dX7_firstTold_81
set_option maxHeartbeats 4000000 in
set_option maxRecDepth 100000 in
theorem c_X7_firstTold_7 (l : Launch) (D : va_G) (cI cZ : ClassId) (ts : Nat → Nat)   : zk_Mi l yX7_firstTold wsX7_firstTold ({ frames := 0, cells := 0, slots := 0, locals := 0 } : Room) D cI cZ ts [.int 7] [] (fun (r : Int32) (_ : Unit) => r = 860) (fun (_ : Unit) => []) 0 0 := by
  refine zk_Mi.of (cc := cX7_firstTold) (maxL := 1) RX7 (by decide) rfl (Nat.le_of_ble_eq_true rfl) rfl ?_
  intro p e s m below meth c A Q H locs ls X hE hA hP hD hS hret hl
  obtain ⟨hx, hb, hml, hown, hts⟩ := id X
  have hl : lv_has ls 1 [(0, .int 7)] := hl
  refine lv_iload_n hx hb dX7_firstTold_0 rfl (lv_at hl 0 rfl) ?_
  refine lv_tableIn (tgt := 82) hx hb dX7_firstTold_1 (by decide) (by decide) rfl (by decide) ?_
  refine lv_sipush (v := 860) hx hb dX7_firstTold_82 (by decide) ?_
  exact hret 860 () H locs 85 ls rfl hP hD hS dX7_firstTold_85
set_option maxHeartbeats 4000000 in
set_option maxRecDepth 100000 in
theorem c_X7_firstTold_8 (l : Launch) (D : va_G) (cI cZ : ClassId) (ts : Nat → Nat)   : zk_Mi l yX7_firstTold wsX7_firstTold ({ frames := 0, cells := 0, slots := 0, locals := 0 } : Room) D cI cZ ts [.int 8] [] (fun (r : Int32) (_ : Unit) => r = 900) (fun (_ : Unit) => []) 0 0 := by
  refine zk_Mi.of (cc := cX7_firstTold) (maxL := 1) RX7 (by decide) rfl (Nat.le_of_ble_eq_true rfl) rfl ?_
  intro p e s m below meth c A Q H locs ls X hE hA hP hD hS hret hl
  obtain ⟨hx, hb, hml, hown, hts⟩ := id X
  have hl : lv_has ls 1 [(0, .int 8)] := hl
  refine lv_iload_n hx hb dX7_firstTold_0 rfl (lv_at hl 0 rfl) ?_
  refine lv_tableIn (tgt := 86) hx hb dX7_firstTold_1 (by decide) (by decide) rfl (by decide) ?_
  refine lv_sipush (v := 900) hx hb dX7_firstTold_86 (by decide) ?_
  exact hret 900 () H locs 89 ls rfl hP hD hS dX7_firstTold_89
set_option maxHeartbeats 4000000 in
set_option maxRecDepth 100000 in
theorem c_X7_firstTold_9 (l : Launch) (D : va_G) (cI cZ : ClassId) (ts : Nat → Nat)   : zk_Mi l yX7_firstTold wsX7_firstTold ({ frames := 0, cells := 0, slots := 0, locals := 0 } : Room) D cI cZ ts [.int 9] [] (fun (r : Int32) (_ : Unit) => r = 950) (fun (_ : Unit) => []) 0 0 := by
  refine zk_Mi.of (cc := cX7_firstTold) (maxL := 1) RX7 (by decide) rfl (Nat.le_of_ble_eq_true rfl) rfl ?_
  intro p e s m below meth c A Q H locs ls X hE hA hP hD hS hret hl
  obtain ⟨hx, hb, hml, hown, hts⟩ := id X
  have hl : lv_has ls 1 [(0, .int 9)] := hl
  refine lv_iload_n hx hb dX7_firstTold_0 rfl (lv_at hl 0 rfl) ?_
  refine lv_tableIn (tgt := 90) hx hb dX7_firstTold_1 (by decide) (by decide) rfl (by decide) ?_
  refine lv_sipush (v := 950) hx hb dX7_firstTold_90 (by decide) ?_
  exact hret 950 () H locs 93 ls rfl hP hD hS dX7_firstTold_93
set_option maxHeartbeats 4000000 in
set_option maxRecDepth 100000 in
theorem c_X7_firstTold_10 (l : Launch) (D : va_G) (cI cZ : ClassId) (ts : Nat → Nat)   : zk_Mi l yX7_firstTold wsX7_firstTold ({ frames := 0, cells := 0, slots := 0, locals := 0 } : Room) D cI cZ ts [.int 10] [] (fun (r : Int32) (_ : Unit) => r = 1000) (fun (_ : Unit) => []) 0 0 := by
  refine zk_Mi.of (cc := cX7_firstTold) (maxL := 1) RX7 (by decide) rfl (Nat.le_of_ble_eq_true rfl) rfl ?_
  intro p e s m below meth c A Q H locs ls X hE hA hP hD hS hret hl
  obtain ⟨hx, hb, hml, hown, hts⟩ := id X
  have hl : lv_has ls 1 [(0, .int 10)] := hl
  refine lv_iload_n hx hb dX7_firstTold_0 rfl (lv_at hl 0 rfl) ?_
  refine lv_tableOut (tgt := 94) hx hb dX7_firstTold_1 (by decide) (by decide) ?_
  refine lv_sipush (v := 1000) hx hb dX7_firstTold_94 (by decide) ?_
  exact hret 1000 () H locs 97 ls rfl hP hD hS dX7_firstTold_97
def zs0 : Nat → Int32 := fun j => if j < 4 then zk_fw j else if j < 15 then zk_fp (j - 4) else if j < 21 then zk_fr (j - 15) else 0
set_option maxHeartbeats 4000000 in
set_option maxRecDepth 100000 in
theorem c_X7_init (l : Launch) (D : va_G) (cI cZ : ClassId) (ts : Nat → Nat) (mo : Nat)  : zk_Mv l yX7_init wsX7_init ({ frames := 1, cells := 9, slots := 2203, locals := 20 } : Room) D cI cZ ts [.ref mo] [(mo, .inr (7, [.null, .null, .null, .null, .int 0, .null, .null, .null, .null, .null, .int 0, .int 0, .int 0, .int 0, .int 0]))] (fun (u : Nat × Nat × Nat × Nat × Nat × Nat × Nat × Nat × Nat) => True) (fun (u : Nat × Nat × Nat × Nat × Nat × Nat × Nat × Nat × Nat) => [(mo, .inr (7, [.ref u.1, .ref u.2.1, .ref u.2.2.1, .ref u.2.2.2.1, .int 0, .ref u.2.2.2.2.1, .ref u.2.2.2.2.2.1, .ref u.2.2.2.2.2.2.1, .ref u.2.2.2.2.2.2.2.1, .ref u.2.2.2.2.2.2.2.2, .int 0, .int 0, .int 0, .int 0, .int 0])), (u.1, .inl (cI, 75, .inl zs0)), (u.2.1, .inl (cI, 150, .inl zz0)), (u.2.2.1, .inl (cZ, 2, .inl zz0)), (u.2.2.2.1, .inl (cI, 160, .inl zz0)), (u.2.2.2.2.1, .inl (cI, 4, .inl zz0)), (u.2.2.2.2.2.1, .inl (cI, 4, .inl zz0)), (u.2.2.2.2.2.2.1, .inl (cI, 4, .inl zz0)), (u.2.2.2.2.2.2.2.1, .inl (cI, 1204, .inl zz0)), (u.2.2.2.2.2.2.2.2, .inl (cI, 600, .inl zz0))]) 9 2203 := by
  refine zk_Mv.of (cc := cX7_init) (maxL := 2) RX7 (by decide) rfl (Nat.le_of_ble_eq_true rfl) rfl ?_
  intro p e s m below meth c A Q H locs ls X hE hA hin hP hD hS hret hl
  obtain ⟨hx, hb, hml, hown, hts⟩ := id X
  have hl : lv_has ls 2 [(0, .ref mo)] := hl
  refine lv_aload_n hx hb dX7_init_0 rfl (lv_at hl 0 rfl) ?_
  refine W.objInit hx hb hown (hts (.methodLink RX7 1 objectInit) (by decide +kernel)) (hts (.instanceMethod objectInit) (by decide +kernel)) (hts _ (List.mem_of_getElem? (i := 3) rfl)) rfl (by rw [hml]; exact hl.1) rfl dX7_init_1 (Nat.le_of_ble_eq_true rfl) (Nat.le_of_ble_eq_true rfl) ?_
  refine W.eq (g2 := F0 m 4 ls []) rfl ?_
  refine lv_aload_n hx hb dX7_init_4 rfl (lv_at hl 0 rfl) ?_
  refine lv_bipush (v := 75) hx hb dX7_init_5 (by decide) ?_
  refine zk_newI (N := 75) hx hb (hts (.arrayClass .int) (by decide +kernel)) hE hP hD hS hA (by decide) (by decide) (Nat.le_of_ble_eq_true rfl) (Nat.le_of_ble_eq_true rfl) (Nat.le_of_ble_eq_true rfl) dX7_init_7 (fun q_7 H hP hD hS => ?_)
  have hP : va_P D vwCl [(mo, .inr (7, [.null, .null, .null, .null, .int 0, .null, .null, .null, .null, .null, .int 0, .int 0, .int 0, .int 0, .int 0])), (q_7, .inl (cI, 75, .inl zz0))] H := hP
  have hD : va_D A [(mo, .inr (7, [.null, .null, .null, .null, .int 0, .null, .null, .null, .null, .null, .int 0, .int 0, .int 0, .int 0, .int 0])), (q_7, .inl (cI, 75, .inl zz0))] := hD
  refine zk_putF (ws' := [(mo, .inr (7, [.ref q_7, .null, .null, .null, .int 0, .null, .null, .null, .null, .null, .int 0, .int 0, .int 0, .int 0, .int 0])), (q_7, .inl (cI, 75, .inl zz0))]) X hE hin sX7_init_9 hP hD hS 0 rfl (Nat.le_of_ble_eq_true rfl) rfl rfl rfl (fun H locs hP hD hS => ?_)
  refine lv_aload_n hx hb dX7_init_12 rfl (lv_at hl 0 rfl) ?_
  refine lv_sipush (v := 150) hx hb dX7_init_13 (by decide) ?_
  refine zk_newI (N := 150) hx hb (hts (.arrayClass .int) (by decide +kernel)) hE hP hD hS hA (by decide) (by decide) (Nat.le_of_ble_eq_true rfl) (Nat.le_of_ble_eq_true rfl) (Nat.le_of_ble_eq_true rfl) dX7_init_16 (fun q_16 H hP hD hS => ?_)
  have hP : va_P D vwCl [(mo, .inr (7, [.ref q_7, .null, .null, .null, .int 0, .null, .null, .null, .null, .null, .int 0, .int 0, .int 0, .int 0, .int 0])), (q_7, .inl (cI, 75, .inl zz0)), (q_16, .inl (cI, 150, .inl zz0))] H := hP
  have hD : va_D A [(mo, .inr (7, [.ref q_7, .null, .null, .null, .int 0, .null, .null, .null, .null, .null, .int 0, .int 0, .int 0, .int 0, .int 0])), (q_7, .inl (cI, 75, .inl zz0)), (q_16, .inl (cI, 150, .inl zz0))] := hD
  refine zk_putF (ws' := [(mo, .inr (7, [.ref q_7, .ref q_16, .null, .null, .int 0, .null, .null, .null, .null, .null, .int 0, .int 0, .int 0, .int 0, .int 0])), (q_7, .inl (cI, 75, .inl zz0)), (q_16, .inl (cI, 150, .inl zz0))]) X hE hin sX7_init_18 hP hD hS 0 rfl (Nat.le_of_ble_eq_true rfl) rfl rfl rfl (fun H locs hP hD hS => ?_)
  refine lv_aload_n hx hb dX7_init_21 rfl (lv_at hl 0 rfl) ?_
  refine lv_iconst (v := 2) hx hb dX7_init_22 (by decide) ?_
  refine zk_newZ (N := 2) hx hb (hts (.arrayClass .boolean) (by decide +kernel)) hE hP hD hS hA (by decide) (by decide) (Nat.le_of_ble_eq_true rfl) (Nat.le_of_ble_eq_true rfl) (Nat.le_of_ble_eq_true rfl) dX7_init_23 (fun q_23 H hP hD hS => ?_)
  have hP : va_P D vwCl [(mo, .inr (7, [.ref q_7, .ref q_16, .null, .null, .int 0, .null, .null, .null, .null, .null, .int 0, .int 0, .int 0, .int 0, .int 0])), (q_7, .inl (cI, 75, .inl zz0)), (q_16, .inl (cI, 150, .inl zz0)), (q_23, .inl (cZ, 2, .inl zz0))] H := hP
  have hD : va_D A [(mo, .inr (7, [.ref q_7, .ref q_16, .null, .null, .int 0, .null, .null, .null, .null, .null, .int 0, .int 0, .int 0, .int 0, .int 0])), (q_7, .inl (cI, 75, .inl zz0)), (q_16, .inl (cI, 150, .inl zz0)), (q_23, .inl (cZ, 2, .inl zz0))] := hD
  refine zk_putF (ws' := [(mo, .inr (7, [.ref q_7, .ref q_16, .ref q_23, .null, .int 0, .null, .null, .null, .null, .null, .int 0, .int 0, .int 0, .int 0, .int 0])), (q_7, .inl (cI, 75, .inl zz0)), (q_16, .inl (cI, 150, .inl zz0)), (q_23, .inl (cZ, 2, .inl zz0))]) X hE hin sX7_init_25 hP hD hS 0 rfl (Nat.le_of_ble_eq_true rfl) rfl rfl rfl (fun H locs hP hD hS => ?_)
  refine lv_aload_n hx hb dX7_init_28 rfl (lv_at hl 0 rfl) ?_
  refine lv_sipush (v := 160) hx hb dX7_init_29 (by decide) ?_
  refine zk_newI (N := 160) hx hb (hts (.arrayClass .int) (by decide +kernel)) hE hP hD hS hA (by decide) (by decide) (Nat.le_of_ble_eq_true rfl) (Nat.le_of_ble_eq_true rfl) (Nat.le_of_ble_eq_true rfl) dX7_init_32 (fun q_32 H hP hD hS => ?_)
  have hP : va_P D vwCl [(mo, .inr (7, [.ref q_7, .ref q_16, .ref q_23, .null, .int 0, .null, .null, .null, .null, .null, .int 0, .int 0, .int 0, .int 0, .int 0])), (q_7, .inl (cI, 75, .inl zz0)), (q_16, .inl (cI, 150, .inl zz0)), (q_23, .inl (cZ, 2, .inl zz0)), (q_32, .inl (cI, 160, .inl zz0))] H := hP
  have hD : va_D A [(mo, .inr (7, [.ref q_7, .ref q_16, .ref q_23, .null, .int 0, .null, .null, .null, .null, .null, .int 0, .int 0, .int 0, .int 0, .int 0])), (q_7, .inl (cI, 75, .inl zz0)), (q_16, .inl (cI, 150, .inl zz0)), (q_23, .inl (cZ, 2, .inl zz0)), (q_32, .inl (cI, 160, .inl zz0))] := hD
  refine zk_putF (ws' := [(mo, .inr (7, [.ref q_7, .ref q_16, .ref q_23, .ref q_32, .int 0, .null, .null, .null, .null, .null, .int 0, .int 0, .int 0, .int 0, .int 0])), (q_7, .inl (cI, 75, .inl zz0)), (q_16, .inl (cI, 150, .inl zz0)), (q_23, .inl (cZ, 2, .inl zz0)), (q_32, .inl (cI, 160, .inl zz0))]) X hE hin sX7_init_34 hP hD hS 0 rfl (Nat.le_of_ble_eq_true rfl) rfl rfl rfl (fun H locs hP hD hS => ?_)
  refine lv_aload_n hx hb dX7_init_37 rfl (lv_at hl 0 rfl) ?_
  refine lv_iconst (v := 4) hx hb dX7_init_38 (by decide) ?_
  refine zk_newI (N := 4) hx hb (hts (.arrayClass .int) (by decide +kernel)) hE hP hD hS hA (by decide) (by decide) (Nat.le_of_ble_eq_true rfl) (Nat.le_of_ble_eq_true rfl) (Nat.le_of_ble_eq_true rfl) dX7_init_39 (fun q_39 H hP hD hS => ?_)
  have hP : va_P D vwCl [(mo, .inr (7, [.ref q_7, .ref q_16, .ref q_23, .ref q_32, .int 0, .null, .null, .null, .null, .null, .int 0, .int 0, .int 0, .int 0, .int 0])), (q_7, .inl (cI, 75, .inl zz0)), (q_16, .inl (cI, 150, .inl zz0)), (q_23, .inl (cZ, 2, .inl zz0)), (q_32, .inl (cI, 160, .inl zz0)), (q_39, .inl (cI, 4, .inl zz0))] H := hP
  have hD : va_D A [(mo, .inr (7, [.ref q_7, .ref q_16, .ref q_23, .ref q_32, .int 0, .null, .null, .null, .null, .null, .int 0, .int 0, .int 0, .int 0, .int 0])), (q_7, .inl (cI, 75, .inl zz0)), (q_16, .inl (cI, 150, .inl zz0)), (q_23, .inl (cZ, 2, .inl zz0)), (q_32, .inl (cI, 160, .inl zz0)), (q_39, .inl (cI, 4, .inl zz0))] := hD
  refine zk_putF (ws' := [(mo, .inr (7, [.ref q_7, .ref q_16, .ref q_23, .ref q_32, .int 0, .ref q_39, .null, .null, .null, .null, .int 0, .int 0, .int 0, .int 0, .int 0])), (q_7, .inl (cI, 75, .inl zz0)), (q_16, .inl (cI, 150, .inl zz0)), (q_23, .inl (cZ, 2, .inl zz0)), (q_32, .inl (cI, 160, .inl zz0)), (q_39, .inl (cI, 4, .inl zz0))]) X hE hin sX7_init_41 hP hD hS 0 rfl (Nat.le_of_ble_eq_true rfl) rfl rfl rfl (fun H locs hP hD hS => ?_)
  refine lv_aload_n hx hb dX7_init_44 rfl (lv_at hl 0 rfl) ?_
  refine lv_iconst (v := 4) hx hb dX7_init_45 (by decide) ?_
  refine zk_newI (N := 4) hx hb (hts (.arrayClass .int) (by decide +kernel)) hE hP hD hS hA (by decide) (by decide) (Nat.le_of_ble_eq_true rfl) (Nat.le_of_ble_eq_true rfl) (Nat.le_of_ble_eq_true rfl) dX7_init_46 (fun q_46 H hP hD hS => ?_)
  have hP : va_P D vwCl [(mo, .inr (7, [.ref q_7, .ref q_16, .ref q_23, .ref q_32, .int 0, .ref q_39, .null, .null, .null, .null, .int 0, .int 0, .int 0, .int 0, .int 0])), (q_7, .inl (cI, 75, .inl zz0)), (q_16, .inl (cI, 150, .inl zz0)), (q_23, .inl (cZ, 2, .inl zz0)), (q_32, .inl (cI, 160, .inl zz0)), (q_39, .inl (cI, 4, .inl zz0)), (q_46, .inl (cI, 4, .inl zz0))] H := hP
  have hD : va_D A [(mo, .inr (7, [.ref q_7, .ref q_16, .ref q_23, .ref q_32, .int 0, .ref q_39, .null, .null, .null, .null, .int 0, .int 0, .int 0, .int 0, .int 0])), (q_7, .inl (cI, 75, .inl zz0)), (q_16, .inl (cI, 150, .inl zz0)), (q_23, .inl (cZ, 2, .inl zz0)), (q_32, .inl (cI, 160, .inl zz0)), (q_39, .inl (cI, 4, .inl zz0)), (q_46, .inl (cI, 4, .inl zz0))] := hD
  refine zk_putF (ws' := [(mo, .inr (7, [.ref q_7, .ref q_16, .ref q_23, .ref q_32, .int 0, .ref q_39, .ref q_46, .null, .null, .null, .int 0, .int 0, .int 0, .int 0, .int 0])), (q_7, .inl (cI, 75, .inl zz0)), (q_16, .inl (cI, 150, .inl zz0)), (q_23, .inl (cZ, 2, .inl zz0)), (q_32, .inl (cI, 160, .inl zz0)), (q_39, .inl (cI, 4, .inl zz0)), (q_46, .inl (cI, 4, .inl zz0))]) X hE hin sX7_init_48 hP hD hS 0 rfl (Nat.le_of_ble_eq_true rfl) rfl rfl rfl (fun H locs hP hD hS => ?_)
  refine lv_aload_n hx hb dX7_init_51 rfl (lv_at hl 0 rfl) ?_
  refine lv_iconst (v := 4) hx hb dX7_init_52 (by decide) ?_
  refine zk_newI (N := 4) hx hb (hts (.arrayClass .int) (by decide +kernel)) hE hP hD hS hA (by decide) (by decide) (Nat.le_of_ble_eq_true rfl) (Nat.le_of_ble_eq_true rfl) (Nat.le_of_ble_eq_true rfl) dX7_init_53 (fun q_53 H hP hD hS => ?_)
  have hP : va_P D vwCl [(mo, .inr (7, [.ref q_7, .ref q_16, .ref q_23, .ref q_32, .int 0, .ref q_39, .ref q_46, .null, .null, .null, .int 0, .int 0, .int 0, .int 0, .int 0])), (q_7, .inl (cI, 75, .inl zz0)), (q_16, .inl (cI, 150, .inl zz0)), (q_23, .inl (cZ, 2, .inl zz0)), (q_32, .inl (cI, 160, .inl zz0)), (q_39, .inl (cI, 4, .inl zz0)), (q_46, .inl (cI, 4, .inl zz0)), (q_53, .inl (cI, 4, .inl zz0))] H := hP
  have hD : va_D A [(mo, .inr (7, [.ref q_7, .ref q_16, .ref q_23, .ref q_32, .int 0, .ref q_39, .ref q_46, .null, .null, .null, .int 0, .int 0, .int 0, .int 0, .int 0])), (q_7, .inl (cI, 75, .inl zz0)), (q_16, .inl (cI, 150, .inl zz0)), (q_23, .inl (cZ, 2, .inl zz0)), (q_32, .inl (cI, 160, .inl zz0)), (q_39, .inl (cI, 4, .inl zz0)), (q_46, .inl (cI, 4, .inl zz0)), (q_53, .inl (cI, 4, .inl zz0))] := hD
  refine zk_putF (ws' := [(mo, .inr (7, [.ref q_7, .ref q_16, .ref q_23, .ref q_32, .int 0, .ref q_39, .ref q_46, .ref q_53, .null, .null, .int 0, .int 0, .int 0, .int 0, .int 0])), (q_7, .inl (cI, 75, .inl zz0)), (q_16, .inl (cI, 150, .inl zz0)), (q_23, .inl (cZ, 2, .inl zz0)), (q_32, .inl (cI, 160, .inl zz0)), (q_39, .inl (cI, 4, .inl zz0)), (q_46, .inl (cI, 4, .inl zz0)), (q_53, .inl (cI, 4, .inl zz0))]) X hE hin sX7_init_55 hP hD hS 0 rfl (Nat.le_of_ble_eq_true rfl) rfl rfl rfl (fun H locs hP hD hS => ?_)
  refine lv_aload_n hx hb dX7_init_58 rfl (lv_at hl 0 rfl) ?_
  refine lv_sipush (v := 1204) hx hb dX7_init_59 (by decide) ?_
  refine zk_newI (N := 1204) hx hb (hts (.arrayClass .int) (by decide +kernel)) hE hP hD hS hA (by decide) (by decide) (Nat.le_of_ble_eq_true rfl) (Nat.le_of_ble_eq_true rfl) (Nat.le_of_ble_eq_true rfl) dX7_init_62 (fun q_62 H hP hD hS => ?_)
  have hP : va_P D vwCl [(mo, .inr (7, [.ref q_7, .ref q_16, .ref q_23, .ref q_32, .int 0, .ref q_39, .ref q_46, .ref q_53, .null, .null, .int 0, .int 0, .int 0, .int 0, .int 0])), (q_7, .inl (cI, 75, .inl zz0)), (q_16, .inl (cI, 150, .inl zz0)), (q_23, .inl (cZ, 2, .inl zz0)), (q_32, .inl (cI, 160, .inl zz0)), (q_39, .inl (cI, 4, .inl zz0)), (q_46, .inl (cI, 4, .inl zz0)), (q_53, .inl (cI, 4, .inl zz0)), (q_62, .inl (cI, 1204, .inl zz0))] H := hP
  have hD : va_D A [(mo, .inr (7, [.ref q_7, .ref q_16, .ref q_23, .ref q_32, .int 0, .ref q_39, .ref q_46, .ref q_53, .null, .null, .int 0, .int 0, .int 0, .int 0, .int 0])), (q_7, .inl (cI, 75, .inl zz0)), (q_16, .inl (cI, 150, .inl zz0)), (q_23, .inl (cZ, 2, .inl zz0)), (q_32, .inl (cI, 160, .inl zz0)), (q_39, .inl (cI, 4, .inl zz0)), (q_46, .inl (cI, 4, .inl zz0)), (q_53, .inl (cI, 4, .inl zz0)), (q_62, .inl (cI, 1204, .inl zz0))] := hD
  refine zk_putF (ws' := [(mo, .inr (7, [.ref q_7, .ref q_16, .ref q_23, .ref q_32, .int 0, .ref q_39, .ref q_46, .ref q_53, .ref q_62, .null, .int 0, .int 0, .int 0, .int 0, .int 0])), (q_7, .inl (cI, 75, .inl zz0)), (q_16, .inl (cI, 150, .inl zz0)), (q_23, .inl (cZ, 2, .inl zz0)), (q_32, .inl (cI, 160, .inl zz0)), (q_39, .inl (cI, 4, .inl zz0)), (q_46, .inl (cI, 4, .inl zz0)), (q_53, .inl (cI, 4, .inl zz0)), (q_62, .inl (cI, 1204, .inl zz0))]) X hE hin sX7_init_64 hP hD hS 0 rfl (Nat.le_of_ble_eq_true rfl) rfl rfl rfl (fun H locs hP hD hS => ?_)
  refine lv_aload_n hx hb dX7_init_67 rfl (lv_at hl 0 rfl) ?_
  refine lv_sipush (v := 600) hx hb dX7_init_68 (by decide) ?_
  refine zk_newI (N := 600) hx hb (hts (.arrayClass .int) (by decide +kernel)) hE hP hD hS hA (by decide) (by decide) (Nat.le_of_ble_eq_true rfl) (Nat.le_of_ble_eq_true rfl) (Nat.le_of_ble_eq_true rfl) dX7_init_71 (fun q_71 H hP hD hS => ?_)
  have hP : va_P D vwCl [(mo, .inr (7, [.ref q_7, .ref q_16, .ref q_23, .ref q_32, .int 0, .ref q_39, .ref q_46, .ref q_53, .ref q_62, .null, .int 0, .int 0, .int 0, .int 0, .int 0])), (q_7, .inl (cI, 75, .inl zz0)), (q_16, .inl (cI, 150, .inl zz0)), (q_23, .inl (cZ, 2, .inl zz0)), (q_32, .inl (cI, 160, .inl zz0)), (q_39, .inl (cI, 4, .inl zz0)), (q_46, .inl (cI, 4, .inl zz0)), (q_53, .inl (cI, 4, .inl zz0)), (q_62, .inl (cI, 1204, .inl zz0)), (q_71, .inl (cI, 600, .inl zz0))] H := hP
  have hD : va_D A [(mo, .inr (7, [.ref q_7, .ref q_16, .ref q_23, .ref q_32, .int 0, .ref q_39, .ref q_46, .ref q_53, .ref q_62, .null, .int 0, .int 0, .int 0, .int 0, .int 0])), (q_7, .inl (cI, 75, .inl zz0)), (q_16, .inl (cI, 150, .inl zz0)), (q_23, .inl (cZ, 2, .inl zz0)), (q_32, .inl (cI, 160, .inl zz0)), (q_39, .inl (cI, 4, .inl zz0)), (q_46, .inl (cI, 4, .inl zz0)), (q_53, .inl (cI, 4, .inl zz0)), (q_62, .inl (cI, 1204, .inl zz0)), (q_71, .inl (cI, 600, .inl zz0))] := hD
  refine zk_putF (ws' := [(mo, .inr (7, [.ref q_7, .ref q_16, .ref q_23, .ref q_32, .int 0, .ref q_39, .ref q_46, .ref q_53, .ref q_62, .ref q_71, .int 0, .int 0, .int 0, .int 0, .int 0])), (q_7, .inl (cI, 75, .inl zz0)), (q_16, .inl (cI, 150, .inl zz0)), (q_23, .inl (cZ, 2, .inl zz0)), (q_32, .inl (cI, 160, .inl zz0)), (q_39, .inl (cI, 4, .inl zz0)), (q_46, .inl (cI, 4, .inl zz0)), (q_53, .inl (cI, 4, .inl zz0)), (q_62, .inl (cI, 1204, .inl zz0)), (q_71, .inl (cI, 600, .inl zz0))]) X hE hin sX7_init_73 hP hD hS 0 rfl (Nat.le_of_ble_eq_true rfl) rfl rfl rfl (fun H locs hP hD hS => ?_)
  refine lv_aload_n hx hb dX7_init_76 rfl (lv_at hl 0 rfl) ?_
  refine zk_get X hE sX7_init_77 hP 0 rfl rfl ?_
  refine lv_iconst (v := 0) hx hb dX7_init_80 (by decide) ?_
  refine lv_bipush (v := 12) hx hb dX7_init_81 (by decide) ?_
  refine zk_ast (ws' := [(mo, .inr (7, [.ref q_7, .ref q_16, .ref q_23, .ref q_32, .int 0, .ref q_39, .ref q_46, .ref q_53, .ref q_62, .ref q_71, .int 0, .int 0, .int 0, .int 0, .int 0])), (q_7, .inl (cI, 75, .inl (upd zz0 0 12))), (q_16, .inl (cI, 150, .inl zz0)), (q_23, .inl (cZ, 2, .inl zz0)), (q_32, .inl (cI, 160, .inl zz0)), (q_39, .inl (cI, 4, .inl zz0)), (q_46, .inl (cI, 4, .inl zz0)), (q_53, .inl (cI, 4, .inl zz0)), (q_62, .inl (cI, 1204, .inl zz0)), (q_71, .inl (cI, 600, .inl zz0))]) hx hb hE hP hD hS 1 0 rfl rfl (Nat.le_of_ble_eq_true rfl) (Nat.le_of_ble_eq_true rfl) dX7_init_83 rfl (fun H locs hP hD hS => ?_)
  refine lv_aload_n hx hb dX7_init_84 rfl (lv_at hl 0 rfl) ?_
  refine zk_get X hE sX7_init_85 hP 0 rfl rfl ?_
  refine lv_iconst (v := 1) hx hb dX7_init_88 (by decide) ?_
  refine lv_bipush (v := 80) hx hb dX7_init_89 (by decide) ?_
  refine zk_ast (ws' := [(mo, .inr (7, [.ref q_7, .ref q_16, .ref q_23, .ref q_32, .int 0, .ref q_39, .ref q_46, .ref q_53, .ref q_62, .ref q_71, .int 0, .int 0, .int 0, .int 0, .int 0])), (q_7, .inl (cI, 75, .inl (upd (upd zz0 0 12) 1 80))), (q_16, .inl (cI, 150, .inl zz0)), (q_23, .inl (cZ, 2, .inl zz0)), (q_32, .inl (cI, 160, .inl zz0)), (q_39, .inl (cI, 4, .inl zz0)), (q_46, .inl (cI, 4, .inl zz0)), (q_53, .inl (cI, 4, .inl zz0)), (q_62, .inl (cI, 1204, .inl zz0)), (q_71, .inl (cI, 600, .inl zz0))]) hx hb hE hP hD hS 1 1 rfl rfl (Nat.le_of_ble_eq_true rfl) (Nat.le_of_ble_eq_true rfl) dX7_init_91 rfl (fun H locs hP hD hS => ?_)
  refine lv_aload_n hx hb dX7_init_92 rfl (lv_at hl 0 rfl) ?_
  refine zk_get X hE sX7_init_93 hP 0 rfl rfl ?_
  refine lv_iconst (v := 2) hx hb dX7_init_96 (by decide) ?_
  refine lv_bipush (v := 20) hx hb dX7_init_97 (by decide) ?_
  refine zk_ast (ws' := [(mo, .inr (7, [.ref q_7, .ref q_16, .ref q_23, .ref q_32, .int 0, .ref q_39, .ref q_46, .ref q_53, .ref q_62, .ref q_71, .int 0, .int 0, .int 0, .int 0, .int 0])), (q_7, .inl (cI, 75, .inl (upd (upd (upd zz0 0 12) 1 80) 2 20))), (q_16, .inl (cI, 150, .inl zz0)), (q_23, .inl (cZ, 2, .inl zz0)), (q_32, .inl (cI, 160, .inl zz0)), (q_39, .inl (cI, 4, .inl zz0)), (q_46, .inl (cI, 4, .inl zz0)), (q_53, .inl (cI, 4, .inl zz0)), (q_62, .inl (cI, 1204, .inl zz0)), (q_71, .inl (cI, 600, .inl zz0))]) hx hb hE hP hD hS 1 2 rfl rfl (Nat.le_of_ble_eq_true rfl) (Nat.le_of_ble_eq_true rfl) dX7_init_99 rfl (fun H locs hP hD hS => ?_)
  refine lv_aload_n hx hb dX7_init_100 rfl (lv_at hl 0 rfl) ?_
  refine zk_get X hE sX7_init_101 hP 0 rfl rfl ?_
  refine lv_iconst (v := 3) hx hb dX7_init_104 (by decide) ?_
  refine lv_bipush (v := 40) hx hb dX7_init_105 (by decide) ?_
  refine zk_ast (ws' := [(mo, .inr (7, [.ref q_7, .ref q_16, .ref q_23, .ref q_32, .int 0, .ref q_39, .ref q_46, .ref q_53, .ref q_62, .ref q_71, .int 0, .int 0, .int 0, .int 0, .int 0])), (q_7, .inl (cI, 75, .inl (upd (upd (upd (upd zz0 0 12) 1 80) 2 20) 3 40))), (q_16, .inl (cI, 150, .inl zz0)), (q_23, .inl (cZ, 2, .inl zz0)), (q_32, .inl (cI, 160, .inl zz0)), (q_39, .inl (cI, 4, .inl zz0)), (q_46, .inl (cI, 4, .inl zz0)), (q_53, .inl (cI, 4, .inl zz0)), (q_62, .inl (cI, 1204, .inl zz0)), (q_71, .inl (cI, 600, .inl zz0))]) hx hb hE hP hD hS 1 3 rfl rfl (Nat.le_of_ble_eq_true rfl) (Nat.le_of_ble_eq_true rfl) dX7_init_107 rfl (fun H locs hP hD hS => ?_)
  refine lv_aload_n hx hb dX7_init_108 rfl (lv_at hl 0 rfl) ?_
  refine zk_get X hE sX7_init_109 hP 0 rfl rfl ?_
  refine lv_bipush (v := 15) hx hb dX7_init_112 (by decide) ?_
  refine lv_iconst (v := 1) hx hb dX7_init_114 (by decide) ?_
  refine zk_ast (ws' := [(mo, .inr (7, [.ref q_7, .ref q_16, .ref q_23, .ref q_32, .int 0, .ref q_39, .ref q_46, .ref q_53, .ref q_62, .ref q_71, .int 0, .int 0, .int 0, .int 0, .int 0])), (q_7, .inl (cI, 75, .inl (upd (upd (upd (upd (upd zz0 0 12) 1 80) 2 20) 3 40) 15 1))), (q_16, .inl (cI, 150, .inl zz0)), (q_23, .inl (cZ, 2, .inl zz0)), (q_32, .inl (cI, 160, .inl zz0)), (q_39, .inl (cI, 4, .inl zz0)), (q_46, .inl (cI, 4, .inl zz0)), (q_53, .inl (cI, 4, .inl zz0)), (q_62, .inl (cI, 1204, .inl zz0)), (q_71, .inl (cI, 600, .inl zz0))]) hx hb hE hP hD hS 1 15 rfl rfl (Nat.le_of_ble_eq_true rfl) (Nat.le_of_ble_eq_true rfl) dX7_init_115 rfl (fun H locs hP hD hS => ?_)
  refine lv_aload_n hx hb dX7_init_116 rfl (lv_at hl 0 rfl) ?_
  refine zk_get X hE sX7_init_117 hP 0 rfl rfl ?_
  refine lv_bipush (v := 16) hx hb dX7_init_120 (by decide) ?_
  refine lv_sipush (v := 600) hx hb dX7_init_122 (by decide) ?_
  refine zk_ast (ws' := [(mo, .inr (7, [.ref q_7, .ref q_16, .ref q_23, .ref q_32, .int 0, .ref q_39, .ref q_46, .ref q_53, .ref q_62, .ref q_71, .int 0, .int 0, .int 0, .int 0, .int 0])), (q_7, .inl (cI, 75, .inl (upd (upd (upd (upd (upd (upd zz0 0 12) 1 80) 2 20) 3 40) 15 1) 16 600))), (q_16, .inl (cI, 150, .inl zz0)), (q_23, .inl (cZ, 2, .inl zz0)), (q_32, .inl (cI, 160, .inl zz0)), (q_39, .inl (cI, 4, .inl zz0)), (q_46, .inl (cI, 4, .inl zz0)), (q_53, .inl (cI, 4, .inl zz0)), (q_62, .inl (cI, 1204, .inl zz0)), (q_71, .inl (cI, 600, .inl zz0))]) hx hb hE hP hD hS 1 16 rfl rfl (Nat.le_of_ble_eq_true rfl) (Nat.le_of_ble_eq_true rfl) dX7_init_125 rfl (fun H locs hP hD hS => ?_)
  refine lv_aload_n hx hb dX7_init_126 rfl (lv_at hl 0 rfl) ?_
  refine zk_get X hE sX7_init_127 hP 0 rfl rfl ?_
  refine lv_bipush (v := 17) hx hb dX7_init_130 (by decide) ?_
  refine lv_sipush (v := 200) hx hb dX7_init_132 (by decide) ?_
  refine zk_ast (ws' := [(mo, .inr (7, [.ref q_7, .ref q_16, .ref q_23, .ref q_32, .int 0, .ref q_39, .ref q_46, .ref q_53, .ref q_62, .ref q_71, .int 0, .int 0, .int 0, .int 0, .int 0])), (q_7, .inl (cI, 75, .inl (upd (upd (upd (upd (upd (upd (upd zz0 0 12) 1 80) 2 20) 3 40) 15 1) 16 600) 17 200))), (q_16, .inl (cI, 150, .inl zz0)), (q_23, .inl (cZ, 2, .inl zz0)), (q_32, .inl (cI, 160, .inl zz0)), (q_39, .inl (cI, 4, .inl zz0)), (q_46, .inl (cI, 4, .inl zz0)), (q_53, .inl (cI, 4, .inl zz0)), (q_62, .inl (cI, 1204, .inl zz0)), (q_71, .inl (cI, 600, .inl zz0))]) hx hb hE hP hD hS 1 17 rfl rfl (Nat.le_of_ble_eq_true rfl) (Nat.le_of_ble_eq_true rfl) dX7_init_135 rfl (fun H locs hP hD hS => ?_)
  refine lv_aload_n hx hb dX7_init_136 rfl (lv_at hl 0 rfl) ?_
  refine zk_get X hE sX7_init_137 hP 0 rfl rfl ?_
  refine lv_bipush (v := 18) hx hb dX7_init_140 (by decide) ?_
  refine lv_iconst (v := 5) hx hb dX7_init_142 (by decide) ?_
  refine zk_ast (ws' := [(mo, .inr (7, [.ref q_7, .ref q_16, .ref q_23, .ref q_32, .int 0, .ref q_39, .ref q_46, .ref q_53, .ref q_62, .ref q_71, .int 0, .int 0, .int 0, .int 0, .int 0])), (q_7, .inl (cI, 75, .inl (upd (upd (upd (upd (upd (upd (upd (upd zz0 0 12) 1 80) 2 20) 3 40) 15 1) 16 600) 17 200) 18 5))), (q_16, .inl (cI, 150, .inl zz0)), (q_23, .inl (cZ, 2, .inl zz0)), (q_32, .inl (cI, 160, .inl zz0)), (q_39, .inl (cI, 4, .inl zz0)), (q_46, .inl (cI, 4, .inl zz0)), (q_53, .inl (cI, 4, .inl zz0)), (q_62, .inl (cI, 1204, .inl zz0)), (q_71, .inl (cI, 600, .inl zz0))]) hx hb hE hP hD hS 1 18 rfl rfl (Nat.le_of_ble_eq_true rfl) (Nat.le_of_ble_eq_true rfl) dX7_init_143 rfl (fun H locs hP hD hS => ?_)
  refine lv_aload_n hx hb dX7_init_144 rfl (lv_at hl 0 rfl) ?_
  refine zk_get X hE sX7_init_145 hP 0 rfl rfl ?_
  refine lv_bipush (v := 19) hx hb dX7_init_148 (by decide) ?_
  refine lv_bipush (v := 9) hx hb dX7_init_150 (by decide) ?_
  refine zk_ast (ws' := [(mo, .inr (7, [.ref q_7, .ref q_16, .ref q_23, .ref q_32, .int 0, .ref q_39, .ref q_46, .ref q_53, .ref q_62, .ref q_71, .int 0, .int 0, .int 0, .int 0, .int 0])), (q_7, .inl (cI, 75, .inl (upd (upd (upd (upd (upd (upd (upd (upd (upd zz0 0 12) 1 80) 2 20) 3 40) 15 1) 16 600) 17 200) 18 5) 19 9))), (q_16, .inl (cI, 150, .inl zz0)), (q_23, .inl (cZ, 2, .inl zz0)), (q_32, .inl (cI, 160, .inl zz0)), (q_39, .inl (cI, 4, .inl zz0)), (q_46, .inl (cI, 4, .inl zz0)), (q_53, .inl (cI, 4, .inl zz0)), (q_62, .inl (cI, 1204, .inl zz0)), (q_71, .inl (cI, 600, .inl zz0))]) hx hb hE hP hD hS 1 19 rfl rfl (Nat.le_of_ble_eq_true rfl) (Nat.le_of_ble_eq_true rfl) dX7_init_152 rfl (fun H locs hP hD hS => ?_)
  refine lv_aload_n hx hb dX7_init_153 rfl (lv_at hl 0 rfl) ?_
  refine zk_get X hE sX7_init_154 hP 0 rfl rfl ?_
  refine lv_bipush (v := 20) hx hb dX7_init_157 (by decide) ?_
  refine lv_bipush (v := 10) hx hb dX7_init_159 (by decide) ?_
  refine zk_ast (ws' := [(mo, .inr (7, [.ref q_7, .ref q_16, .ref q_23, .ref q_32, .int 0, .ref q_39, .ref q_46, .ref q_53, .ref q_62, .ref q_71, .int 0, .int 0, .int 0, .int 0, .int 0])), (q_7, .inl (cI, 75, .inl (upd (upd (upd (upd (upd (upd (upd (upd (upd (upd zz0 0 12) 1 80) 2 20) 3 40) 15 1) 16 600) 17 200) 18 5) 19 9) 20 10))), (q_16, .inl (cI, 150, .inl zz0)), (q_23, .inl (cZ, 2, .inl zz0)), (q_32, .inl (cI, 160, .inl zz0)), (q_39, .inl (cI, 4, .inl zz0)), (q_46, .inl (cI, 4, .inl zz0)), (q_53, .inl (cI, 4, .inl zz0)), (q_62, .inl (cI, 1204, .inl zz0)), (q_71, .inl (cI, 600, .inl zz0))]) hx hb hE hP hD hS 1 20 rfl rfl (Nat.le_of_ble_eq_true rfl) (Nat.le_of_ble_eq_true rfl) dX7_init_161 rfl (fun H locs hP hD hS => ?_)
  refine lv_iconst (v := 0) hx hb dX7_init_162 (by decide) ?_
  refine lv_istore_n (lv' := [(1, .int 0), (0, .ref mo)]) hx hb dX7_init_163 rfl hl (by decide) rfl (fun ls hl => ?_)
  refine lv_iload_n hx hb dX7_init_164 rfl (lv_at hl 0 rfl) ?_
  refine lv_bipush (v := 11) hx hb dX7_init_165 (by decide) ?_
  refine lv_icmp_ge (tgt := 188) hx hb dX7_init_167 (by decide) (fun c_167 => absurd c_167 (by decide)) (fun c_167 => ?_)
  refine lv_aload_n hx hb dX7_init_170 rfl (lv_at hl 1 rfl) ?_
  refine zk_get X hE sX7_init_171 hP 0 rfl rfl ?_
  refine lv_iconst (v := 4) hx hb dX7_init_174 (by decide) ?_
  refine lv_iload_n hx hb dX7_init_175 rfl (lv_at hl 0 rfl) ?_
  refine lv_iadd hx hb dX7_init_176 ?_
  refine zk_top (show (4 + 0 : Int32) = 4 by decide) ?_
  refine lv_iload_n hx hb dX7_init_177 rfl (lv_at hl 0 rfl) ?_
  refine zk_cSi (rest := [.int 4, .ref q_7]) X hE hA (c_X7_firstTold_0 l D cI cZ ts) (cwS 1 hts gX7_init_X7_firstTold rfl rfl rfl hdX7_firstTold ⟨Nat.le_of_ble_eq_true rfl, Nat.le_of_ble_eq_true rfl⟩) dX7_init_178 hP hD hS rfl hl rfl (Nat.le_of_ble_eq_true rfl) ⟨Nat.le_of_ble_eq_true rfl, Nat.le_of_ble_eq_true rfl⟩ (fun r_178 _ H locs hw_178 hP hD hS => ?_)
  obtain rfl : r_178 = 0 := hw_178
  refine zk_ast (ws' := [(mo, .inr (7, [.ref q_7, .ref q_16, .ref q_23, .ref q_32, .int 0, .ref q_39, .ref q_46, .ref q_53, .ref q_62, .ref q_71, .int 0, .int 0, .int 0, .int 0, .int 0])), (q_7, .inl (cI, 75, .inl (upd (upd (upd (upd (upd (upd (upd (upd (upd (upd (upd zz0 0 12) 1 80) 2 20) 3 40) 15 1) 16 600) 17 200) 18 5) 19 9) 20 10) 4 0))), (q_16, .inl (cI, 150, .inl zz0)), (q_23, .inl (cZ, 2, .inl zz0)), (q_32, .inl (cI, 160, .inl zz0)), (q_39, .inl (cI, 4, .inl zz0)), (q_46, .inl (cI, 4, .inl zz0)), (q_53, .inl (cI, 4, .inl zz0)), (q_62, .inl (cI, 1204, .inl zz0)), (q_71, .inl (cI, 600, .inl zz0))]) hx hb hE hP hD hS 1 4 rfl rfl (Nat.le_of_ble_eq_true rfl) (Nat.le_of_ble_eq_true rfl) dX7_init_181 rfl (fun H locs hP hD hS => ?_)
  refine lv_iinc (v := 1) (lv' := [(1, .int 1), (0, .ref mo)]) hx hb dX7_init_182 hl (k := 0) rfl (by decide) (by decide) rfl (fun ls hl => ?_)
  refine lv_goto (tgt := 164) hx hb dX7_init_185 (by decide) ?_
  refine lv_iload_n hx hb dX7_init_164 rfl (lv_at hl 0 rfl) ?_
  refine lv_bipush (v := 11) hx hb dX7_init_165 (by decide) ?_
  refine lv_icmp_ge (tgt := 188) hx hb dX7_init_167 (by decide) (fun c_167 => absurd c_167 (by decide)) (fun c_167 => ?_)
  refine lv_aload_n hx hb dX7_init_170 rfl (lv_at hl 1 rfl) ?_
  refine zk_get X hE sX7_init_171 hP 0 rfl rfl ?_
  refine lv_iconst (v := 4) hx hb dX7_init_174 (by decide) ?_
  refine lv_iload_n hx hb dX7_init_175 rfl (lv_at hl 0 rfl) ?_
  refine lv_iadd hx hb dX7_init_176 ?_
  refine zk_top (show (4 + 1 : Int32) = 5 by decide) ?_
  refine lv_iload_n hx hb dX7_init_177 rfl (lv_at hl 0 rfl) ?_
  refine zk_cSi (rest := [.int 5, .ref q_7]) X hE hA (c_X7_firstTold_1 l D cI cZ ts) (cwS 1 hts gX7_init_X7_firstTold rfl rfl rfl hdX7_firstTold ⟨Nat.le_of_ble_eq_true rfl, Nat.le_of_ble_eq_true rfl⟩) dX7_init_178 hP hD hS rfl hl rfl (Nat.le_of_ble_eq_true rfl) ⟨Nat.le_of_ble_eq_true rfl, Nat.le_of_ble_eq_true rfl⟩ (fun r_178 _ H locs hw_178 hP hD hS => ?_)
  obtain rfl : r_178 = 450 := hw_178
  refine zk_ast (ws' := [(mo, .inr (7, [.ref q_7, .ref q_16, .ref q_23, .ref q_32, .int 0, .ref q_39, .ref q_46, .ref q_53, .ref q_62, .ref q_71, .int 0, .int 0, .int 0, .int 0, .int 0])), (q_7, .inl (cI, 75, .inl (upd (upd (upd (upd (upd (upd (upd (upd (upd (upd (upd (upd zz0 0 12) 1 80) 2 20) 3 40) 15 1) 16 600) 17 200) 18 5) 19 9) 20 10) 4 0) 5 450))), (q_16, .inl (cI, 150, .inl zz0)), (q_23, .inl (cZ, 2, .inl zz0)), (q_32, .inl (cI, 160, .inl zz0)), (q_39, .inl (cI, 4, .inl zz0)), (q_46, .inl (cI, 4, .inl zz0)), (q_53, .inl (cI, 4, .inl zz0)), (q_62, .inl (cI, 1204, .inl zz0)), (q_71, .inl (cI, 600, .inl zz0))]) hx hb hE hP hD hS 1 5 rfl rfl (Nat.le_of_ble_eq_true rfl) (Nat.le_of_ble_eq_true rfl) dX7_init_181 rfl (fun H locs hP hD hS => ?_)
  refine lv_iinc (v := 2) (lv' := [(1, .int 2), (0, .ref mo)]) hx hb dX7_init_182 hl (k := 0) rfl (by decide) (by decide) rfl (fun ls hl => ?_)
  refine lv_goto (tgt := 164) hx hb dX7_init_185 (by decide) ?_
  refine lv_iload_n hx hb dX7_init_164 rfl (lv_at hl 0 rfl) ?_
  refine lv_bipush (v := 11) hx hb dX7_init_165 (by decide) ?_
  refine lv_icmp_ge (tgt := 188) hx hb dX7_init_167 (by decide) (fun c_167 => absurd c_167 (by decide)) (fun c_167 => ?_)
  refine lv_aload_n hx hb dX7_init_170 rfl (lv_at hl 1 rfl) ?_
  refine zk_get X hE sX7_init_171 hP 0 rfl rfl ?_
  refine lv_iconst (v := 4) hx hb dX7_init_174 (by decide) ?_
  refine lv_iload_n hx hb dX7_init_175 rfl (lv_at hl 0 rfl) ?_
  refine lv_iadd hx hb dX7_init_176 ?_
  refine zk_top (show (4 + 2 : Int32) = 6 by decide) ?_
  refine lv_iload_n hx hb dX7_init_177 rfl (lv_at hl 0 rfl) ?_
  refine zk_cSi (rest := [.int 6, .ref q_7]) X hE hA (c_X7_firstTold_2 l D cI cZ ts) (cwS 1 hts gX7_init_X7_firstTold rfl rfl rfl hdX7_firstTold ⟨Nat.le_of_ble_eq_true rfl, Nat.le_of_ble_eq_true rfl⟩) dX7_init_178 hP hD hS rfl hl rfl (Nat.le_of_ble_eq_true rfl) ⟨Nat.le_of_ble_eq_true rfl, Nat.le_of_ble_eq_true rfl⟩ (fun r_178 _ H locs hw_178 hP hD hS => ?_)
  obtain rfl : r_178 = 600 := hw_178
  refine zk_ast (ws' := [(mo, .inr (7, [.ref q_7, .ref q_16, .ref q_23, .ref q_32, .int 0, .ref q_39, .ref q_46, .ref q_53, .ref q_62, .ref q_71, .int 0, .int 0, .int 0, .int 0, .int 0])), (q_7, .inl (cI, 75, .inl (upd (upd (upd (upd (upd (upd (upd (upd (upd (upd (upd (upd (upd zz0 0 12) 1 80) 2 20) 3 40) 15 1) 16 600) 17 200) 18 5) 19 9) 20 10) 4 0) 5 450) 6 600))), (q_16, .inl (cI, 150, .inl zz0)), (q_23, .inl (cZ, 2, .inl zz0)), (q_32, .inl (cI, 160, .inl zz0)), (q_39, .inl (cI, 4, .inl zz0)), (q_46, .inl (cI, 4, .inl zz0)), (q_53, .inl (cI, 4, .inl zz0)), (q_62, .inl (cI, 1204, .inl zz0)), (q_71, .inl (cI, 600, .inl zz0))]) hx hb hE hP hD hS 1 6 rfl rfl (Nat.le_of_ble_eq_true rfl) (Nat.le_of_ble_eq_true rfl) dX7_init_181 rfl (fun H locs hP hD hS => ?_)
  refine lv_iinc (v := 3) (lv' := [(1, .int 3), (0, .ref mo)]) hx hb dX7_init_182 hl (k := 0) rfl (by decide) (by decide) rfl (fun ls hl => ?_)
  refine lv_goto (tgt := 164) hx hb dX7_init_185 (by decide) ?_
  refine lv_iload_n hx hb dX7_init_164 rfl (lv_at hl 0 rfl) ?_
  refine lv_bipush (v := 11) hx hb dX7_init_165 (by decide) ?_
  refine lv_icmp_ge (tgt := 188) hx hb dX7_init_167 (by decide) (fun c_167 => absurd c_167 (by decide)) (fun c_167 => ?_)
  refine lv_aload_n hx hb dX7_init_170 rfl (lv_at hl 1 rfl) ?_
  refine zk_get X hE sX7_init_171 hP 0 rfl rfl ?_
  refine lv_iconst (v := 4) hx hb dX7_init_174 (by decide) ?_
  refine lv_iload_n hx hb dX7_init_175 rfl (lv_at hl 0 rfl) ?_
  refine lv_iadd hx hb dX7_init_176 ?_
  refine zk_top (show (4 + 3 : Int32) = 7 by decide) ?_
  refine lv_iload_n hx hb dX7_init_177 rfl (lv_at hl 0 rfl) ?_
  refine zk_cSi (rest := [.int 7, .ref q_7]) X hE hA (c_X7_firstTold_3 l D cI cZ ts) (cwS 1 hts gX7_init_X7_firstTold rfl rfl rfl hdX7_firstTold ⟨Nat.le_of_ble_eq_true rfl, Nat.le_of_ble_eq_true rfl⟩) dX7_init_178 hP hD hS rfl hl rfl (Nat.le_of_ble_eq_true rfl) ⟨Nat.le_of_ble_eq_true rfl, Nat.le_of_ble_eq_true rfl⟩ (fun r_178 _ H locs hw_178 hP hD hS => ?_)
  obtain rfl : r_178 = 690 := hw_178
  refine zk_ast (ws' := [(mo, .inr (7, [.ref q_7, .ref q_16, .ref q_23, .ref q_32, .int 0, .ref q_39, .ref q_46, .ref q_53, .ref q_62, .ref q_71, .int 0, .int 0, .int 0, .int 0, .int 0])), (q_7, .inl (cI, 75, .inl (upd (upd (upd (upd (upd (upd (upd (upd (upd (upd (upd (upd (upd (upd zz0 0 12) 1 80) 2 20) 3 40) 15 1) 16 600) 17 200) 18 5) 19 9) 20 10) 4 0) 5 450) 6 600) 7 690))), (q_16, .inl (cI, 150, .inl zz0)), (q_23, .inl (cZ, 2, .inl zz0)), (q_32, .inl (cI, 160, .inl zz0)), (q_39, .inl (cI, 4, .inl zz0)), (q_46, .inl (cI, 4, .inl zz0)), (q_53, .inl (cI, 4, .inl zz0)), (q_62, .inl (cI, 1204, .inl zz0)), (q_71, .inl (cI, 600, .inl zz0))]) hx hb hE hP hD hS 1 7 rfl rfl (Nat.le_of_ble_eq_true rfl) (Nat.le_of_ble_eq_true rfl) dX7_init_181 rfl (fun H locs hP hD hS => ?_)
  refine lv_iinc (v := 4) (lv' := [(1, .int 4), (0, .ref mo)]) hx hb dX7_init_182 hl (k := 0) rfl (by decide) (by decide) rfl (fun ls hl => ?_)
  refine lv_goto (tgt := 164) hx hb dX7_init_185 (by decide) ?_
  refine lv_iload_n hx hb dX7_init_164 rfl (lv_at hl 0 rfl) ?_
  refine lv_bipush (v := 11) hx hb dX7_init_165 (by decide) ?_
  refine lv_icmp_ge (tgt := 188) hx hb dX7_init_167 (by decide) (fun c_167 => absurd c_167 (by decide)) (fun c_167 => ?_)
  refine lv_aload_n hx hb dX7_init_170 rfl (lv_at hl 1 rfl) ?_
  refine zk_get X hE sX7_init_171 hP 0 rfl rfl ?_
  refine lv_iconst (v := 4) hx hb dX7_init_174 (by decide) ?_
  refine lv_iload_n hx hb dX7_init_175 rfl (lv_at hl 0 rfl) ?_
  refine lv_iadd hx hb dX7_init_176 ?_
  refine zk_top (show (4 + 4 : Int32) = 8 by decide) ?_
  refine lv_iload_n hx hb dX7_init_177 rfl (lv_at hl 0 rfl) ?_
  refine zk_cSi (rest := [.int 8, .ref q_7]) X hE hA (c_X7_firstTold_4 l D cI cZ ts) (cwS 1 hts gX7_init_X7_firstTold rfl rfl rfl hdX7_firstTold ⟨Nat.le_of_ble_eq_true rfl, Nat.le_of_ble_eq_true rfl⟩) dX7_init_178 hP hD hS rfl hl rfl (Nat.le_of_ble_eq_true rfl) ⟨Nat.le_of_ble_eq_true rfl, Nat.le_of_ble_eq_true rfl⟩ (fun r_178 _ H locs hw_178 hP hD hS => ?_)
  obtain rfl : r_178 = 740 := hw_178
  refine zk_ast (ws' := [(mo, .inr (7, [.ref q_7, .ref q_16, .ref q_23, .ref q_32, .int 0, .ref q_39, .ref q_46, .ref q_53, .ref q_62, .ref q_71, .int 0, .int 0, .int 0, .int 0, .int 0])), (q_7, .inl (cI, 75, .inl (upd (upd (upd (upd (upd (upd (upd (upd (upd (upd (upd (upd (upd (upd (upd zz0 0 12) 1 80) 2 20) 3 40) 15 1) 16 600) 17 200) 18 5) 19 9) 20 10) 4 0) 5 450) 6 600) 7 690) 8 740))), (q_16, .inl (cI, 150, .inl zz0)), (q_23, .inl (cZ, 2, .inl zz0)), (q_32, .inl (cI, 160, .inl zz0)), (q_39, .inl (cI, 4, .inl zz0)), (q_46, .inl (cI, 4, .inl zz0)), (q_53, .inl (cI, 4, .inl zz0)), (q_62, .inl (cI, 1204, .inl zz0)), (q_71, .inl (cI, 600, .inl zz0))]) hx hb hE hP hD hS 1 8 rfl rfl (Nat.le_of_ble_eq_true rfl) (Nat.le_of_ble_eq_true rfl) dX7_init_181 rfl (fun H locs hP hD hS => ?_)
  refine lv_iinc (v := 5) (lv' := [(1, .int 5), (0, .ref mo)]) hx hb dX7_init_182 hl (k := 0) rfl (by decide) (by decide) rfl (fun ls hl => ?_)
  refine lv_goto (tgt := 164) hx hb dX7_init_185 (by decide) ?_
  refine lv_iload_n hx hb dX7_init_164 rfl (lv_at hl 0 rfl) ?_
  refine lv_bipush (v := 11) hx hb dX7_init_165 (by decide) ?_
  refine lv_icmp_ge (tgt := 188) hx hb dX7_init_167 (by decide) (fun c_167 => absurd c_167 (by decide)) (fun c_167 => ?_)
  refine lv_aload_n hx hb dX7_init_170 rfl (lv_at hl 1 rfl) ?_
  refine zk_get X hE sX7_init_171 hP 0 rfl rfl ?_
  refine lv_iconst (v := 4) hx hb dX7_init_174 (by decide) ?_
  refine lv_iload_n hx hb dX7_init_175 rfl (lv_at hl 0 rfl) ?_
  refine lv_iadd hx hb dX7_init_176 ?_
  refine zk_top (show (4 + 5 : Int32) = 9 by decide) ?_
  refine lv_iload_n hx hb dX7_init_177 rfl (lv_at hl 0 rfl) ?_
  refine zk_cSi (rest := [.int 9, .ref q_7]) X hE hA (c_X7_firstTold_5 l D cI cZ ts) (cwS 1 hts gX7_init_X7_firstTold rfl rfl rfl hdX7_firstTold ⟨Nat.le_of_ble_eq_true rfl, Nat.le_of_ble_eq_true rfl⟩) dX7_init_178 hP hD hS rfl hl rfl (Nat.le_of_ble_eq_true rfl) ⟨Nat.le_of_ble_eq_true rfl, Nat.le_of_ble_eq_true rfl⟩ (fun r_178 _ H locs hw_178 hP hD hS => ?_)
  obtain rfl : r_178 = 780 := hw_178
  refine zk_ast (ws' := [(mo, .inr (7, [.ref q_7, .ref q_16, .ref q_23, .ref q_32, .int 0, .ref q_39, .ref q_46, .ref q_53, .ref q_62, .ref q_71, .int 0, .int 0, .int 0, .int 0, .int 0])), (q_7, .inl (cI, 75, .inl (upd (upd (upd (upd (upd (upd (upd (upd (upd (upd (upd (upd (upd (upd (upd (upd zz0 0 12) 1 80) 2 20) 3 40) 15 1) 16 600) 17 200) 18 5) 19 9) 20 10) 4 0) 5 450) 6 600) 7 690) 8 740) 9 780))), (q_16, .inl (cI, 150, .inl zz0)), (q_23, .inl (cZ, 2, .inl zz0)), (q_32, .inl (cI, 160, .inl zz0)), (q_39, .inl (cI, 4, .inl zz0)), (q_46, .inl (cI, 4, .inl zz0)), (q_53, .inl (cI, 4, .inl zz0)), (q_62, .inl (cI, 1204, .inl zz0)), (q_71, .inl (cI, 600, .inl zz0))]) hx hb hE hP hD hS 1 9 rfl rfl (Nat.le_of_ble_eq_true rfl) (Nat.le_of_ble_eq_true rfl) dX7_init_181 rfl (fun H locs hP hD hS => ?_)
  refine lv_iinc (v := 6) (lv' := [(1, .int 6), (0, .ref mo)]) hx hb dX7_init_182 hl (k := 0) rfl (by decide) (by decide) rfl (fun ls hl => ?_)
  refine lv_goto (tgt := 164) hx hb dX7_init_185 (by decide) ?_
  refine lv_iload_n hx hb dX7_init_164 rfl (lv_at hl 0 rfl) ?_
  refine lv_bipush (v := 11) hx hb dX7_init_165 (by decide) ?_
  refine lv_icmp_ge (tgt := 188) hx hb dX7_init_167 (by decide) (fun c_167 => absurd c_167 (by decide)) (fun c_167 => ?_)
  refine lv_aload_n hx hb dX7_init_170 rfl (lv_at hl 1 rfl) ?_
  refine zk_get X hE sX7_init_171 hP 0 rfl rfl ?_
  refine lv_iconst (v := 4) hx hb dX7_init_174 (by decide) ?_
  refine lv_iload_n hx hb dX7_init_175 rfl (lv_at hl 0 rfl) ?_
  refine lv_iadd hx hb dX7_init_176 ?_
  refine zk_top (show (4 + 6 : Int32) = 10 by decide) ?_
  refine lv_iload_n hx hb dX7_init_177 rfl (lv_at hl 0 rfl) ?_
  refine zk_cSi (rest := [.int 10, .ref q_7]) X hE hA (c_X7_firstTold_6 l D cI cZ ts) (cwS 1 hts gX7_init_X7_firstTold rfl rfl rfl hdX7_firstTold ⟨Nat.le_of_ble_eq_true rfl, Nat.le_of_ble_eq_true rfl⟩) dX7_init_178 hP hD hS rfl hl rfl (Nat.le_of_ble_eq_true rfl) ⟨Nat.le_of_ble_eq_true rfl, Nat.le_of_ble_eq_true rfl⟩ (fun r_178 _ H locs hw_178 hP hD hS => ?_)
  obtain rfl : r_178 = 820 := hw_178
  refine zk_ast (ws' := [(mo, .inr (7, [.ref q_7, .ref q_16, .ref q_23, .ref q_32, .int 0, .ref q_39, .ref q_46, .ref q_53, .ref q_62, .ref q_71, .int 0, .int 0, .int 0, .int 0, .int 0])), (q_7, .inl (cI, 75, .inl (upd (upd (upd (upd (upd (upd (upd (upd (upd (upd (upd (upd (upd (upd (upd (upd (upd zz0 0 12) 1 80) 2 20) 3 40) 15 1) 16 600) 17 200) 18 5) 19 9) 20 10) 4 0) 5 450) 6 600) 7 690) 8 740) 9 780) 10 820))), (q_16, .inl (cI, 150, .inl zz0)), (q_23, .inl (cZ, 2, .inl zz0)), (q_32, .inl (cI, 160, .inl zz0)), (q_39, .inl (cI, 4, .inl zz0)), (q_46, .inl (cI, 4, .inl zz0)), (q_53, .inl (cI, 4, .inl zz0)), (q_62, .inl (cI, 1204, .inl zz0)), (q_71, .inl (cI, 600, .inl zz0))]) hx hb hE hP hD hS 1 10 rfl rfl (Nat.le_of_ble_eq_true rfl) (Nat.le_of_ble_eq_true rfl) dX7_init_181 rfl (fun H locs hP hD hS => ?_)
  refine lv_iinc (v := 7) (lv' := [(1, .int 7), (0, .ref mo)]) hx hb dX7_init_182 hl (k := 0) rfl (by decide) (by decide) rfl (fun ls hl => ?_)
  refine lv_goto (tgt := 164) hx hb dX7_init_185 (by decide) ?_
  refine lv_iload_n hx hb dX7_init_164 rfl (lv_at hl 0 rfl) ?_
  refine lv_bipush (v := 11) hx hb dX7_init_165 (by decide) ?_
  refine lv_icmp_ge (tgt := 188) hx hb dX7_init_167 (by decide) (fun c_167 => absurd c_167 (by decide)) (fun c_167 => ?_)
  refine lv_aload_n hx hb dX7_init_170 rfl (lv_at hl 1 rfl) ?_
  refine zk_get X hE sX7_init_171 hP 0 rfl rfl ?_
  refine lv_iconst (v := 4) hx hb dX7_init_174 (by decide) ?_
  refine lv_iload_n hx hb dX7_init_175 rfl (lv_at hl 0 rfl) ?_
  refine lv_iadd hx hb dX7_init_176 ?_
  refine zk_top (show (4 + 7 : Int32) = 11 by decide) ?_
  refine lv_iload_n hx hb dX7_init_177 rfl (lv_at hl 0 rfl) ?_
  refine zk_cSi (rest := [.int 11, .ref q_7]) X hE hA (c_X7_firstTold_7 l D cI cZ ts) (cwS 1 hts gX7_init_X7_firstTold rfl rfl rfl hdX7_firstTold ⟨Nat.le_of_ble_eq_true rfl, Nat.le_of_ble_eq_true rfl⟩) dX7_init_178 hP hD hS rfl hl rfl (Nat.le_of_ble_eq_true rfl) ⟨Nat.le_of_ble_eq_true rfl, Nat.le_of_ble_eq_true rfl⟩ (fun r_178 _ H locs hw_178 hP hD hS => ?_)
  obtain rfl : r_178 = 860 := hw_178
  refine zk_ast (ws' := [(mo, .inr (7, [.ref q_7, .ref q_16, .ref q_23, .ref q_32, .int 0, .ref q_39, .ref q_46, .ref q_53, .ref q_62, .ref q_71, .int 0, .int 0, .int 0, .int 0, .int 0])), (q_7, .inl (cI, 75, .inl (upd (upd (upd (upd (upd (upd (upd (upd (upd (upd (upd (upd (upd (upd (upd (upd (upd (upd zz0 0 12) 1 80) 2 20) 3 40) 15 1) 16 600) 17 200) 18 5) 19 9) 20 10) 4 0) 5 450) 6 600) 7 690) 8 740) 9 780) 10 820) 11 860))), (q_16, .inl (cI, 150, .inl zz0)), (q_23, .inl (cZ, 2, .inl zz0)), (q_32, .inl (cI, 160, .inl zz0)), (q_39, .inl (cI, 4, .inl zz0)), (q_46, .inl (cI, 4, .inl zz0)), (q_53, .inl (cI, 4, .inl zz0)), (q_62, .inl (cI, 1204, .inl zz0)), (q_71, .inl (cI, 600, .inl zz0))]) hx hb hE hP hD hS 1 11 rfl rfl (Nat.le_of_ble_eq_true rfl) (Nat.le_of_ble_eq_true rfl) dX7_init_181 rfl (fun H locs hP hD hS => ?_)
  refine lv_iinc (v := 8) (lv' := [(1, .int 8), (0, .ref mo)]) hx hb dX7_init_182 hl (k := 0) rfl (by decide) (by decide) rfl (fun ls hl => ?_)
  refine lv_goto (tgt := 164) hx hb dX7_init_185 (by decide) ?_
  refine lv_iload_n hx hb dX7_init_164 rfl (lv_at hl 0 rfl) ?_
  refine lv_bipush (v := 11) hx hb dX7_init_165 (by decide) ?_
  refine lv_icmp_ge (tgt := 188) hx hb dX7_init_167 (by decide) (fun c_167 => absurd c_167 (by decide)) (fun c_167 => ?_)
  refine lv_aload_n hx hb dX7_init_170 rfl (lv_at hl 1 rfl) ?_
  refine zk_get X hE sX7_init_171 hP 0 rfl rfl ?_
  refine lv_iconst (v := 4) hx hb dX7_init_174 (by decide) ?_
  refine lv_iload_n hx hb dX7_init_175 rfl (lv_at hl 0 rfl) ?_
  refine lv_iadd hx hb dX7_init_176 ?_
  refine zk_top (show (4 + 8 : Int32) = 12 by decide) ?_
  refine lv_iload_n hx hb dX7_init_177 rfl (lv_at hl 0 rfl) ?_
  refine zk_cSi (rest := [.int 12, .ref q_7]) X hE hA (c_X7_firstTold_8 l D cI cZ ts) (cwS 1 hts gX7_init_X7_firstTold rfl rfl rfl hdX7_firstTold ⟨Nat.le_of_ble_eq_true rfl, Nat.le_of_ble_eq_true rfl⟩) dX7_init_178 hP hD hS rfl hl rfl (Nat.le_of_ble_eq_true rfl) ⟨Nat.le_of_ble_eq_true rfl, Nat.le_of_ble_eq_true rfl⟩ (fun r_178 _ H locs hw_178 hP hD hS => ?_)
  obtain rfl : r_178 = 900 := hw_178
  refine zk_ast (ws' := [(mo, .inr (7, [.ref q_7, .ref q_16, .ref q_23, .ref q_32, .int 0, .ref q_39, .ref q_46, .ref q_53, .ref q_62, .ref q_71, .int 0, .int 0, .int 0, .int 0, .int 0])), (q_7, .inl (cI, 75, .inl (upd (upd (upd (upd (upd (upd (upd (upd (upd (upd (upd (upd (upd (upd (upd (upd (upd (upd (upd zz0 0 12) 1 80) 2 20) 3 40) 15 1) 16 600) 17 200) 18 5) 19 9) 20 10) 4 0) 5 450) 6 600) 7 690) 8 740) 9 780) 10 820) 11 860) 12 900))), (q_16, .inl (cI, 150, .inl zz0)), (q_23, .inl (cZ, 2, .inl zz0)), (q_32, .inl (cI, 160, .inl zz0)), (q_39, .inl (cI, 4, .inl zz0)), (q_46, .inl (cI, 4, .inl zz0)), (q_53, .inl (cI, 4, .inl zz0)), (q_62, .inl (cI, 1204, .inl zz0)), (q_71, .inl (cI, 600, .inl zz0))]) hx hb hE hP hD hS 1 12 rfl rfl (Nat.le_of_ble_eq_true rfl) (Nat.le_of_ble_eq_true rfl) dX7_init_181 rfl (fun H locs hP hD hS => ?_)
  refine lv_iinc (v := 9) (lv' := [(1, .int 9), (0, .ref mo)]) hx hb dX7_init_182 hl (k := 0) rfl (by decide) (by decide) rfl (fun ls hl => ?_)
  refine lv_goto (tgt := 164) hx hb dX7_init_185 (by decide) ?_
  refine lv_iload_n hx hb dX7_init_164 rfl (lv_at hl 0 rfl) ?_
  refine lv_bipush (v := 11) hx hb dX7_init_165 (by decide) ?_
  refine lv_icmp_ge (tgt := 188) hx hb dX7_init_167 (by decide) (fun c_167 => absurd c_167 (by decide)) (fun c_167 => ?_)
  refine lv_aload_n hx hb dX7_init_170 rfl (lv_at hl 1 rfl) ?_
  refine zk_get X hE sX7_init_171 hP 0 rfl rfl ?_
  refine lv_iconst (v := 4) hx hb dX7_init_174 (by decide) ?_
  refine lv_iload_n hx hb dX7_init_175 rfl (lv_at hl 0 rfl) ?_
  refine lv_iadd hx hb dX7_init_176 ?_
  refine zk_top (show (4 + 9 : Int32) = 13 by decide) ?_
  refine lv_iload_n hx hb dX7_init_177 rfl (lv_at hl 0 rfl) ?_
  refine zk_cSi (rest := [.int 13, .ref q_7]) X hE hA (c_X7_firstTold_9 l D cI cZ ts) (cwS 1 hts gX7_init_X7_firstTold rfl rfl rfl hdX7_firstTold ⟨Nat.le_of_ble_eq_true rfl, Nat.le_of_ble_eq_true rfl⟩) dX7_init_178 hP hD hS rfl hl rfl (Nat.le_of_ble_eq_true rfl) ⟨Nat.le_of_ble_eq_true rfl, Nat.le_of_ble_eq_true rfl⟩ (fun r_178 _ H locs hw_178 hP hD hS => ?_)
  obtain rfl : r_178 = 950 := hw_178
  refine zk_ast (ws' := [(mo, .inr (7, [.ref q_7, .ref q_16, .ref q_23, .ref q_32, .int 0, .ref q_39, .ref q_46, .ref q_53, .ref q_62, .ref q_71, .int 0, .int 0, .int 0, .int 0, .int 0])), (q_7, .inl (cI, 75, .inl (upd (upd (upd (upd (upd (upd (upd (upd (upd (upd (upd (upd (upd (upd (upd (upd (upd (upd (upd (upd zz0 0 12) 1 80) 2 20) 3 40) 15 1) 16 600) 17 200) 18 5) 19 9) 20 10) 4 0) 5 450) 6 600) 7 690) 8 740) 9 780) 10 820) 11 860) 12 900) 13 950))), (q_16, .inl (cI, 150, .inl zz0)), (q_23, .inl (cZ, 2, .inl zz0)), (q_32, .inl (cI, 160, .inl zz0)), (q_39, .inl (cI, 4, .inl zz0)), (q_46, .inl (cI, 4, .inl zz0)), (q_53, .inl (cI, 4, .inl zz0)), (q_62, .inl (cI, 1204, .inl zz0)), (q_71, .inl (cI, 600, .inl zz0))]) hx hb hE hP hD hS 1 13 rfl rfl (Nat.le_of_ble_eq_true rfl) (Nat.le_of_ble_eq_true rfl) dX7_init_181 rfl (fun H locs hP hD hS => ?_)
  refine lv_iinc (v := 10) (lv' := [(1, .int 10), (0, .ref mo)]) hx hb dX7_init_182 hl (k := 0) rfl (by decide) (by decide) rfl (fun ls hl => ?_)
  refine lv_goto (tgt := 164) hx hb dX7_init_185 (by decide) ?_
  refine lv_iload_n hx hb dX7_init_164 rfl (lv_at hl 0 rfl) ?_
  refine lv_bipush (v := 11) hx hb dX7_init_165 (by decide) ?_
  refine lv_icmp_ge (tgt := 188) hx hb dX7_init_167 (by decide) (fun c_167 => absurd c_167 (by decide)) (fun c_167 => ?_)
  refine lv_aload_n hx hb dX7_init_170 rfl (lv_at hl 1 rfl) ?_
  refine zk_get X hE sX7_init_171 hP 0 rfl rfl ?_
  refine lv_iconst (v := 4) hx hb dX7_init_174 (by decide) ?_
  refine lv_iload_n hx hb dX7_init_175 rfl (lv_at hl 0 rfl) ?_
  refine lv_iadd hx hb dX7_init_176 ?_
  refine zk_top (show (4 + 10 : Int32) = 14 by decide) ?_
  refine lv_iload_n hx hb dX7_init_177 rfl (lv_at hl 0 rfl) ?_
  refine zk_cSi (rest := [.int 14, .ref q_7]) X hE hA (c_X7_firstTold_10 l D cI cZ ts) (cwS 1 hts gX7_init_X7_firstTold rfl rfl rfl hdX7_firstTold ⟨Nat.le_of_ble_eq_true rfl, Nat.le_of_ble_eq_true rfl⟩) dX7_init_178 hP hD hS rfl hl rfl (Nat.le_of_ble_eq_true rfl) ⟨Nat.le_of_ble_eq_true rfl, Nat.le_of_ble_eq_true rfl⟩ (fun r_178 _ H locs hw_178 hP hD hS => ?_)
  obtain rfl : r_178 = 1000 := hw_178
  refine zk_ast (ws' := [(mo, .inr (7, [.ref q_7, .ref q_16, .ref q_23, .ref q_32, .int 0, .ref q_39, .ref q_46, .ref q_53, .ref q_62, .ref q_71, .int 0, .int 0, .int 0, .int 0, .int 0])), (q_7, .inl (cI, 75, .inl (upd (upd (upd (upd (upd (upd (upd (upd (upd (upd (upd (upd (upd (upd (upd (upd (upd (upd (upd (upd (upd zz0 0 12) 1 80) 2 20) 3 40) 15 1) 16 600) 17 200) 18 5) 19 9) 20 10) 4 0) 5 450) 6 600) 7 690) 8 740) 9 780) 10 820) 11 860) 12 900) 13 950) 14 1000))), (q_16, .inl (cI, 150, .inl zz0)), (q_23, .inl (cZ, 2, .inl zz0)), (q_32, .inl (cI, 160, .inl zz0)), (q_39, .inl (cI, 4, .inl zz0)), (q_46, .inl (cI, 4, .inl zz0)), (q_53, .inl (cI, 4, .inl zz0)), (q_62, .inl (cI, 1204, .inl zz0)), (q_71, .inl (cI, 600, .inl zz0))]) hx hb hE hP hD hS 1 14 rfl rfl (Nat.le_of_ble_eq_true rfl) (Nat.le_of_ble_eq_true rfl) dX7_init_181 rfl (fun H locs hP hD hS => ?_)
  refine lv_iinc (v := 11) (lv' := [(1, .int 11), (0, .ref mo)]) hx hb dX7_init_182 hl (k := 0) rfl (by decide) (by decide) rfl (fun ls hl => ?_)
  refine lv_goto (tgt := 164) hx hb dX7_init_185 (by decide) ?_
  refine lv_iload_n hx hb dX7_init_164 rfl (lv_at hl 0 rfl) ?_
  refine lv_bipush (v := 11) hx hb dX7_init_165 (by decide) ?_
  refine lv_icmp_ge (tgt := 188) hx hb dX7_init_167 (by decide) (fun c_167 => ?_) (fun c_167 => absurd c_167 (by decide))
  have hP : va_P D vwCl [(mo, .inr (7, [.ref q_7, .ref q_16, .ref q_23, .ref q_32, .int 0, .ref q_39, .ref q_46, .ref q_53, .ref q_62, .ref q_71, .int 0, .int 0, .int 0, .int 0, .int 0])), (q_7, .inl (cI, 75, .inl zs0)), (q_16, .inl (cI, 150, .inl zz0)), (q_23, .inl (cZ, 2, .inl zz0)), (q_32, .inl (cI, 160, .inl zz0)), (q_39, .inl (cI, 4, .inl zz0)), (q_46, .inl (cI, 4, .inl zz0)), (q_53, .inl (cI, 4, .inl zz0)), (q_62, .inl (cI, 1204, .inl zz0)), (q_71, .inl (cI, 600, .inl zz0))] H := zk_arr hP (q0 := 1) rfl (by decide +kernel)
  have hD : va_D A [(mo, .inr (7, [.ref q_7, .ref q_16, .ref q_23, .ref q_32, .int 0, .ref q_39, .ref q_46, .ref q_53, .ref q_62, .ref q_71, .int 0, .int 0, .int 0, .int 0, .int 0])), (q_7, .inl (cI, 75, .inl zs0)), (q_16, .inl (cI, 150, .inl zz0)), (q_23, .inl (cZ, 2, .inl zz0)), (q_32, .inl (cI, 160, .inl zz0)), (q_39, .inl (cI, 4, .inl zz0)), (q_46, .inl (cI, 4, .inl zz0)), (q_53, .inl (cI, 4, .inl zz0)), (q_62, .inl (cI, 1204, .inl zz0)), (q_71, .inl (cI, 600, .inl zz0))] := hD.set (p := 1) rfl
  have hq := hret  (q_7, q_16, q_23, q_32, q_39, q_46, q_53, q_62, q_71) H locs 188 ls
  dsimp only at hq
  exact hq trivial hP hD hS dX7_init_188
