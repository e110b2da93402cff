theorem dfX0 : ∀ j, j < 5 → defaultValue (tyX0 j) = vp_V [.int 0, .int 0, .int 0, .int 0, .int 0] j := by
  intro j hj
  match j, hj with
  | 0, _ => rfl
  | 1, _ => rfl
  | 2, _ => rfl
  | 3, _ => rfl
  | 4, _ => rfl
  | n + 5, h => exact absurd h (by omega)
theorem dfX1 : ∀ j, j < 7 → defaultValue (tyX1 j) = vp_V [.null, .null, .null, .null, .null, .int 0, .int 0] j := by
  intro j hj
  match j, hj with
  | 0, _ => rfl
  | 1, _ => rfl
  | 2, _ => rfl
  | 3, _ => rfl
  | 4, _ => rfl
  | 5, _ => rfl
  | 6, _ => rfl
  | n + 7, h => exact absurd h (by omega)
theorem dfX2 : ∀ j, j < 4 → defaultValue (tyX2 j) = vp_V [.int 0, .int 0, .int 0, .int 0] j := by
  intro j hj
  match j, hj with
  | 0, _ => rfl
  | 1, _ => rfl
  | 2, _ => rfl
  | 3, _ => rfl
  | n + 4, h => exact absurd h (by omega)
theorem dfX3 : ∀ j, j < 6 → defaultValue (tyX3 j) = vp_V [.int 0, .null, .null, .null, .null, .int 0] j := by
  intro j hj
  match j, hj with
  | 0, _ => rfl
  | 1, _ => rfl
  | 2, _ => rfl
  | 3, _ => rfl
  | 4, _ => rfl
  | 5, _ => rfl
  | n + 6, h => exact absurd h (by omega)
theorem dfX4 : ∀ j, j < 10 → defaultValue (tyX4 j) = vp_V [.null, .null, .null, .null, .null, .null, .null, .null, .int 0, .int 0] j := by
  intro j hj
  match j, hj with
  | 0, _ => rfl
  | 1, _ => rfl
  | 2, _ => rfl
  | 3, _ => rfl
  | 4, _ => rfl
  | 5, _ => rfl
  | 6, _ => rfl
  | 7, _ => rfl
  | 8, _ => rfl
  | 9, _ => rfl
  | n + 10, h => exact absurd h (by omega)
theorem dfX5 : ∀ j, j < 6 → defaultValue (tyX5 j) = vp_V [.null, .null, .null, .null, .null, .int 0] j := by
  intro j hj
  match j, hj with
  | 0, _ => rfl
  | 1, _ => rfl
  | 2, _ => rfl
  | 3, _ => rfl
  | 4, _ => rfl
  | 5, _ => rfl
  | n + 6, h => exact absurd h (by omega)
theorem iwX5_init_2 : ∀ w ∈ wsX20, w ∈ wsX5_init := fun _ h => List.mem_cons_of_mem _ (List.mem_append_left _ (List.mem_append_right _ h))
theorem iwX5_init_3 : ∀ w ∈ wsX30, w ∈ wsX5_init := fun _ h => List.mem_cons_of_mem _ (List.mem_append_right _ h)
theorem iwX4_init_2 : ∀ w ∈ wsX20, w ∈ wsX4_init := fun _ h => List.mem_cons_of_mem _ (List.mem_append_left _ (List.mem_append_left _ (List.mem_append_right _ h)))
theorem iwX4_init_3 : ∀ w ∈ wsX30, w ∈ wsX4_init := fun _ h => List.mem_cons_of_mem _ (List.mem_append_right _ h)
theorem iwX1_init_2 : ∀ w ∈ wsX20, w ∈ wsX1_init := fun _ h => List.mem_cons_of_mem _ (List.mem_append_left _ (List.mem_append_left _ (List.mem_append_right _ h)))
theorem iwX1_init_3 : ∀ w ∈ wsX30, w ∈ wsX1_init := fun _ h => List.mem_cons_of_mem _ (List.mem_append_right _ h)
theorem iwX6_init_5 : ∀ w ∈ wsX50, w ∈ wsX6_init := fun _ h => List.mem_cons_of_mem _ (List.mem_append_left _ (List.mem_append_left _ (List.mem_append_left _ (List.mem_append_left _ (List.mem_append_left _ (List.mem_append_left _ (List.mem_append_right _ h)))))))
theorem iwX6_init_4 : ∀ w ∈ wsX40, w ∈ wsX6_init := fun _ h => List.mem_cons_of_mem _ (List.mem_append_left _ (List.mem_append_left _ (List.mem_append_left _ (List.mem_append_left _ (List.mem_append_right _ h)))))
theorem iwX6_init_0 : ∀ w ∈ wsX00, w ∈ wsX6_init := fun _ h => List.mem_cons_of_mem _ (List.mem_append_left _ (List.mem_append_left _ (List.mem_append_left _ (List.mem_append_right _ h))))
theorem iwX6_init_1 : ∀ w ∈ wsX10, w ∈ wsX6_init := fun _ h => List.mem_cons_of_mem _ (List.mem_append_left _ (List.mem_append_left _ (List.mem_append_right _ h)))
theorem iwX6_init_2 : ∀ w ∈ wsX20, w ∈ wsX6_init := fun _ h => List.mem_cons_of_mem _ (List.mem_append_left _ (List.mem_append_right _ h))
set_option maxHeartbeats 4000000 in
set_option maxRecDepth 100000 in
theorem c_X3_init_12 (l : Launch) (D : va_G) (cI cZ : ClassId) (ts : Nat → Nat) (ro : Nat)  : zk_Mv l yX3_init wsX3_init ({ frames := 1, cells := 4, slots := 48, locals := 14 } : Room) D cI cZ ts [.ref ro, .int 12] [(ro, .inr (3, [.int 0, .null, .null, .null, .null, .int 0]))] (fun (u : Nat × Nat × Nat × Nat) => True) (fun (u : Nat × Nat × Nat × Nat) => [(ro, .inr (3, [.int (nI 12), .ref u.1, .ref u.2.1, .ref u.2.2.1, .ref u.2.2.2, .int (nI 0)])), (u.1, .inl (cI, 12, .inl zz0)), (u.2.1, .inl (cI, 12, .inl zz0)), (u.2.2.1, .inl (cI, 12, .inl zz0)), (u.2.2.2, .inl (cI, 12, .inl zz0))]) 4 48 := by
  refine zk_Mv.of (cc := cX3_init) (maxL := 2) RX3 (by decide) rfl (Nat.le_of_ble_eq_true rfl) rfl ?_
  intro p e s m below meth c A Q H locs ls X hE hA hin hP hD hS hret hl
  obtain ⟨hx, hb, hml, hown, hts⟩ := id X
  have hl : lv_has ls 2 [(0, .ref ro), (1, .int 12)] := hl
  refine lv_aload_n hx hb dX3_init_0 rfl (lv_at hl 0 rfl) ?_
  refine W.objInit hx hb hown (hts (.methodLink RX3 3 objectInit) (by decide +kernel)) (hts (.instanceMethod objectInit) (by decide +kernel)) (hts _ (List.mem_of_getElem? (i := 3) rfl)) rfl (by rw [hml]; exact hl.1) rfl dX3_init_1 (Nat.le_of_ble_eq_true rfl) (Nat.le_of_ble_eq_true rfl) ?_
  refine W.eq (g2 := F0 m 4 ls []) rfl ?_
  refine lv_aload_n hx hb dX3_init_4 rfl (lv_at hl 0 rfl) ?_
  refine lv_iconst (v := 0) hx hb dX3_init_5 (by decide) ?_
  refine zk_put (ws' := [(ro, .inr (3, [.int 0, .null, .null, .null, .null, .int 0]))]) X hE sX3_init_6 hP hD hS 0 rfl (Nat.le_of_ble_eq_true rfl) rfl (fun H locs hP hD hS => ?_)
  refine lv_aload_n hx hb dX3_init_9 rfl (lv_at hl 0 rfl) ?_
  refine lv_iload_n hx hb dX3_init_10 rfl (lv_at hl 1 rfl) ?_
  refine lv_iconst (v := 0) hx hb dX3_init_11 (by decide) ?_
  refine va_mmax hx hb (hml.trans hl.1.symm) hown (hts (.methodLink RX3 15 Lib.Math.max.name) (by decide +kernel)) (hts (.static Lib.Math.max.name) (by decide +kernel)) (hts (.initialized "java/lang/Math") (by decide +kernel)) (hts _ (List.mem_of_getElem? (i := 8) rfl)) (Nat.le_of_ble_eq_true rfl) (Nat.le_of_ble_eq_true rfl) (Nat.le_of_ble_eq_true rfl) (Nat.le_of_ble_eq_true rfl) dX3_init_12 ?_
  refine zk_top (show (if 12 < 0 then 0 else 12 : Int32) = 12 from (by decide)) ?_
  refine zk_putF (ws' := [(ro, .inr (3, [.int 12, .null, .null, .null, .null, .int 0]))]) X hE hin sX3_init_15 hP hD hS 0 rfl (Nat.le_of_ble_eq_true rfl) rfl rfl rfl (fun H locs hP hD hS => ?_)
  refine lv_aload_n hx hb dX3_init_18 rfl (lv_at hl 0 rfl) ?_
  refine lv_aload_n hx hb dX3_init_19 rfl (lv_at hl 0 rfl) ?_
  refine zk_get X hE sX3_init_20 hP 0 rfl rfl ?_
  refine zk_newI (N := 12) hx hb (hts (.arrayClass .int) (by decide +kernel)) hE hP hD hS hA (by decide) (by decide) (Nat.le_of_ble_eq_true rfl) (Nat.le_of_ble_eq_true rfl) (Nat.le_of_ble_eq_true rfl) dX3_init_23 (fun q_23 H hP hD hS => ?_)
  have hP : va_P D vwCl [(ro, .inr (3, [.int 12, .null, .null, .null, .null, .int 0])), (q_23, .inl (cI, 12, .inl zz0))] H := hP
  have hD : va_D A [(ro, .inr (3, [.int 12, .null, .null, .null, .null, .int 0])), (q_23, .inl (cI, 12, .inl zz0))] := hD
  refine zk_putF (ws' := [(ro, .inr (3, [.int 12, .ref q_23, .null, .null, .null, .int 0])), (q_23, .inl (cI, 12, .inl zz0))]) X hE hin sX3_init_25 hP hD hS 0 rfl (Nat.le_of_ble_eq_true rfl) rfl rfl rfl (fun H locs hP hD hS => ?_)
  refine lv_aload_n hx hb dX3_init_28 rfl (lv_at hl 0 rfl) ?_
  refine lv_aload_n hx hb dX3_init_29 rfl (lv_at hl 0 rfl) ?_
  refine zk_get X hE sX3_init_30 hP 0 rfl rfl ?_
  refine zk_newI (N := 12) hx hb (hts (.arrayClass .int) (by decide +kernel)) hE hP hD hS hA (by decide) (by decide) (Nat.le_of_ble_eq_true rfl) (Nat.le_of_ble_eq_true rfl) (Nat.le_of_ble_eq_true rfl) dX3_init_33 (fun q_33 H hP hD hS => ?_)
  have hP : va_P D vwCl [(ro, .inr (3, [.int 12, .ref q_23, .null, .null, .null, .int 0])), (q_23, .inl (cI, 12, .inl zz0)), (q_33, .inl (cI, 12, .inl zz0))] H := hP
  have hD : va_D A [(ro, .inr (3, [.int 12, .ref q_23, .null, .null, .null, .int 0])), (q_23, .inl (cI, 12, .inl zz0)), (q_33, .inl (cI, 12, .inl zz0))] := hD
  refine zk_putF (ws' := [(ro, .inr (3, [.int 12, .ref q_23, .ref q_33, .null, .null, .int 0])), (q_23, .inl (cI, 12, .inl zz0)), (q_33, .inl (cI, 12, .inl zz0))]) X hE hin sX3_init_35 hP hD hS 0 rfl (Nat.le_of_ble_eq_true rfl) rfl rfl rfl (fun H locs hP hD hS => ?_)
  refine lv_aload_n hx hb dX3_init_38 rfl (lv_at hl 0 rfl) ?_
  refine lv_aload_n hx hb dX3_init_39 rfl (lv_at hl 0 rfl) ?_
  refine zk_get X hE sX3_init_40 hP 0 rfl rfl ?_
  refine zk_newI (N := 12) hx hb (hts (.arrayClass .int) (by decide +kernel)) hE hP hD hS hA (by decide) (by decide) (Nat.le_of_ble_eq_true rfl) (Nat.le_of_ble_eq_true rfl) (Nat.le_of_ble_eq_true rfl) dX3_init_43 (fun q_43 H hP hD hS => ?_)
  have hP : va_P D vwCl [(ro, .inr (3, [.int 12, .ref q_23, .ref q_33, .null, .null, .int 0])), (q_23, .inl (cI, 12, .inl zz0)), (q_33, .inl (cI, 12, .inl zz0)), (q_43, .inl (cI, 12, .inl zz0))] H := hP
  have hD : va_D A [(ro, .inr (3, [.int 12, .ref q_23, .ref q_33, .null, .null, .int 0])), (q_23, .inl (cI, 12, .inl zz0)), (q_33, .inl (cI, 12, .inl zz0)), (q_43, .inl (cI, 12, .inl zz0))] := hD
  refine zk_putF (ws' := [(ro, .inr (3, [.int 12, .ref q_23, .ref q_33, .ref q_43, .null, .int 0])), (q_23, .inl (cI, 12, .inl zz0)), (q_33, .inl (cI, 12, .inl zz0)), (q_43, .inl (cI, 12, .inl zz0))]) X hE hin sX3_init_45 hP hD hS 0 rfl (Nat.le_of_ble_eq_true rfl) rfl rfl rfl (fun H locs hP hD hS => ?_)
  refine lv_aload_n hx hb dX3_init_48 rfl (lv_at hl 0 rfl) ?_
  refine lv_aload_n hx hb dX3_init_49 rfl (lv_at hl 0 rfl) ?_
  refine zk_get X hE sX3_init_50 hP 0 rfl rfl ?_
  refine zk_newI (N := 12) hx hb (hts (.arrayClass .int) (by decide +kernel)) hE hP hD hS hA (by decide) (by decide) (Nat.le_of_ble_eq_true rfl) (Nat.le_of_ble_eq_true rfl) (Nat.le_of_ble_eq_true rfl) dX3_init_53 (fun q_53 H hP hD hS => ?_)
  have hP : va_P D vwCl [(ro, .inr (3, [.int 12, .ref q_23, .ref q_33, .ref q_43, .null, .int 0])), (q_23, .inl (cI, 12, .inl zz0)), (q_33, .inl (cI, 12, .inl zz0)), (q_43, .inl (cI, 12, .inl zz0)), (q_53, .inl (cI, 12, .inl zz0))] H := hP
  have hD : va_D A [(ro, .inr (3, [.int 12, .ref q_23, .ref q_33, .ref q_43, .null, .int 0])), (q_23, .inl (cI, 12, .inl zz0)), (q_33, .inl (cI, 12, .inl zz0)), (q_43, .inl (cI, 12, .inl zz0)), (q_53, .inl (cI, 12, .inl zz0))] := hD
  refine zk_putF (ws' := [(ro, .inr (3, [.int 12, .ref q_23, .ref q_33, .ref q_43, .ref q_53, .int 0])), (q_23, .inl (cI, 12, .inl zz0)), (q_33, .inl (cI, 12, .inl zz0)), (q_43, .inl (cI, 12, .inl zz0)), (q_53, .inl (cI, 12, .inl zz0))]) X hE hin sX3_init_55 hP hD hS 0 rfl (Nat.le_of_ble_eq_true rfl) rfl rfl rfl (fun H locs hP hD hS => ?_)
  have hq := hret  (q_23, q_33, q_43, q_53) H locs 58 ls
  dsimp only at hq
  exact hq trivial hP hD hS dX3_init_58
set_option maxHeartbeats 4000000 in
set_option maxRecDepth 100000 in
theorem c_X3_init_40 (l : Launch) (D : va_G) (cI cZ : ClassId) (ts : Nat → Nat) (ro : Nat)  : zk_Mv l yX3_init wsX3_init ({ frames := 1, cells := 4, slots := 160, locals := 14 } : Room) D cI cZ ts [.ref ro, .int 40] [(ro, .inr (3, [.int 0, .null, .null, .null, .null, .int 0]))] (fun (u : Nat × Nat × Nat × Nat) => True) (fun (u : Nat × Nat × Nat × Nat) => [(ro, .inr (3, [.int (nI 40), .ref u.1, .ref u.2.1, .ref u.2.2.1, .ref u.2.2.2, .int (nI 0)])), (u.1, .inl (cI, 40, .inl zz0)), (u.2.1, .inl (cI, 40, .inl zz0)), (u.2.2.1, .inl (cI, 40, .inl zz0)), (u.2.2.2, .inl (cI, 40, .inl zz0))]) 4 160 := by
  refine zk_Mv.of (cc := cX3_init) (maxL := 2) RX3 (by decide) rfl (Nat.le_of_ble_eq_true rfl) rfl ?_
  intro p e s m below meth c A Q H locs ls X hE hA hin hP hD hS hret hl
  obtain ⟨hx, hb, hml, hown, hts⟩ := id X
  have hl : lv_has ls 2 [(0, .ref ro), (1, .int 40)] := hl
  refine lv_aload_n hx hb dX3_init_0 rfl (lv_at hl 0 rfl) ?_
  refine W.objInit hx hb hown (hts (.methodLink RX3 3 objectInit) (by decide +kernel)) (hts (.instanceMethod objectInit) (by decide +kernel)) (hts _ (List.mem_of_getElem? (i := 3) rfl)) rfl (by rw [hml]; exact hl.1) rfl dX3_init_1 (Nat.le_of_ble_eq_true rfl) (Nat.le_of_ble_eq_true rfl) ?_
  refine W.eq (g2 := F0 m 4 ls []) rfl ?_
  refine lv_aload_n hx hb dX3_init_4 rfl (lv_at hl 0 rfl) ?_
  refine lv_iconst (v := 0) hx hb dX3_init_5 (by decide) ?_
  refine zk_put (ws' := [(ro, .inr (3, [.int 0, .null, .null, .null, .null, .int 0]))]) X hE sX3_init_6 hP hD hS 0 rfl (Nat.le_of_ble_eq_true rfl) rfl (fun H locs hP hD hS => ?_)
  refine lv_aload_n hx hb dX3_init_9 rfl (lv_at hl 0 rfl) ?_
  refine lv_iload_n hx hb dX3_init_10 rfl (lv_at hl 1 rfl) ?_
  refine lv_iconst (v := 0) hx hb dX3_init_11 (by decide) ?_
  refine va_mmax hx hb (hml.trans hl.1.symm) hown (hts (.methodLink RX3 15 Lib.Math.max.name) (by decide +kernel)) (hts (.static Lib.Math.max.name) (by decide +kernel)) (hts (.initialized "java/lang/Math") (by decide +kernel)) (hts _ (List.mem_of_getElem? (i := 8) rfl)) (Nat.le_of_ble_eq_true rfl) (Nat.le_of_ble_eq_true rfl) (Nat.le_of_ble_eq_true rfl) (Nat.le_of_ble_eq_true rfl) dX3_init_12 ?_
  refine zk_top (show (if 40 < 0 then 0 else 40 : Int32) = 40 from (by decide)) ?_
  refine zk_putF (ws' := [(ro, .inr (3, [.int 40, .null, .null, .null, .null, .int 0]))]) X hE hin sX3_init_15 hP hD hS 0 rfl (Nat.le_of_ble_eq_true rfl) rfl rfl rfl (fun H locs hP hD hS => ?_)
  refine lv_aload_n hx hb dX3_init_18 rfl (lv_at hl 0 rfl) ?_
  refine lv_aload_n hx hb dX3_init_19 rfl (lv_at hl 0 rfl) ?_
  refine zk_get X hE sX3_init_20 hP 0 rfl rfl ?_
  refine zk_newI (N := 40) hx hb (hts (.arrayClass .int) (by decide +kernel)) hE hP hD hS hA (by decide) (by decide) (Nat.le_of_ble_eq_true rfl) (Nat.le_of_ble_eq_true rfl) (Nat.le_of_ble_eq_true rfl) dX3_init_23 (fun q_23 H hP hD hS => ?_)
  have hP : va_P D vwCl [(ro, .inr (3, [.int 40, .null, .null, .null, .null, .int 0])), (q_23, .inl (cI, 40, .inl zz0))] H := hP
  have hD : va_D A [(ro, .inr (3, [.int 40, .null, .null, .null, .null, .int 0])), (q_23, .inl (cI, 40, .inl zz0))] := hD
  refine zk_putF (ws' := [(ro, .inr (3, [.int 40, .ref q_23, .null, .null, .null, .int 0])), (q_23, .inl (cI, 40, .inl zz0))]) X hE hin sX3_init_25 hP hD hS 0 rfl (Nat.le_of_ble_eq_true rfl) rfl rfl rfl (fun H locs hP hD hS => ?_)
  refine lv_aload_n hx hb dX3_init_28 rfl (lv_at hl 0 rfl) ?_
  refine lv_aload_n hx hb dX3_init_29 rfl (lv_at hl 0 rfl) ?_
  refine zk_get X hE sX3_init_30 hP 0 rfl rfl ?_
  refine zk_newI (N := 40) hx hb (hts (.arrayClass .int) (by decide +kernel)) hE hP hD hS hA (by decide) (by decide) (Nat.le_of_ble_eq_true rfl) (Nat.le_of_ble_eq_true rfl) (Nat.le_of_ble_eq_true rfl) dX3_init_33 (fun q_33 H hP hD hS => ?_)
  have hP : va_P D vwCl [(ro, .inr (3, [.int 40, .ref q_23, .null, .null, .null, .int 0])), (q_23, .inl (cI, 40, .inl zz0)), (q_33, .inl (cI, 40, .inl zz0))] H := hP
  have hD : va_D A [(ro, .inr (3, [.int 40, .ref q_23, .null, .null, .null, .int 0])), (q_23, .inl (cI, 40, .inl zz0)), (q_33, .inl (cI, 40, .inl zz0))] := hD
  refine zk_putF (ws' := [(ro, .inr (3, [.int 40, .ref q_23, .ref q_33, .null, .null, .int 0])), (q_23, .inl (cI, 40, .inl zz0)), (q_33, .inl (cI, 40, .inl zz0))]) X hE hin sX3_init_35 hP hD hS 0 rfl (Nat.le_of_ble_eq_true rfl) rfl rfl rfl (fun H locs hP hD hS => ?_)
  refine lv_aload_n hx hb dX3_init_38 rfl (lv_at hl 0 rfl) ?_
  refine lv_aload_n hx hb dX3_init_39 rfl (lv_at hl 0 rfl) ?_
  refine zk_get X hE sX3_init_40 hP 0 rfl rfl ?_
  refine zk_newI (N := 40) hx hb (hts (.arrayClass .int) (by decide +kernel)) hE hP hD hS hA (by decide) (by decide) (Nat.le_of_ble_eq_true rfl) (Nat.le_of_ble_eq_true rfl) (Nat.le_of_ble_eq_true rfl) dX3_init_43 (fun q_43 H hP hD hS => ?_)
  have hP : va_P D vwCl [(ro, .inr (3, [.int 40, .ref q_23, .ref q_33, .null, .null, .int 0])), (q_23, .inl (cI, 40, .inl zz0)), (q_33, .inl (cI, 40, .inl zz0)), (q_43, .inl (cI, 40, .inl zz0))] H := hP
  have hD : va_D A [(ro, .inr (3, [.int 40, .ref q_23, .ref q_33, .null, .null, .int 0])), (q_23, .inl (cI, 40, .inl zz0)), (q_33, .inl (cI, 40, .inl zz0)), (q_43, .inl (cI, 40, .inl zz0))] := hD
  refine zk_putF (ws' := [(ro, .inr (3, [.int 40, .ref q_23, .ref q_33, .ref q_43, .null, .int 0])), (q_23, .inl (cI, 40, .inl zz0)), (q_33, .inl (cI, 40, .inl zz0)), (q_43, .inl (cI, 40, .inl zz0))]) X hE hin sX3_init_45 hP hD hS 0 rfl (Nat.le_of_ble_eq_true rfl) rfl rfl rfl (fun H locs hP hD hS => ?_)
  refine lv_aload_n hx hb dX3_init_48 rfl (lv_at hl 0 rfl) ?_
  refine lv_aload_n hx hb dX3_init_49 rfl (lv_at hl 0 rfl) ?_
  refine zk_get X hE sX3_init_50 hP 0 rfl rfl ?_
  refine zk_newI (N := 40) hx hb (hts (.arrayClass .int) (by decide +kernel)) hE hP hD hS hA (by decide) (by decide) (Nat.le_of_ble_eq_true rfl) (Nat.le_of_ble_eq_true rfl) (Nat.le_of_ble_eq_true rfl) dX3_init_53 (fun q_53 H hP hD hS => ?_)
  have hP : va_P D vwCl [(ro, .inr (3, [.int 40, .ref q_23, .ref q_33, .ref q_43, .null, .int 0])), (q_23, .inl (cI, 40, .inl zz0)), (q_33, .inl (cI, 40, .inl zz0)), (q_43, .inl (cI, 40, .inl zz0)), (q_53, .inl (cI, 40, .inl zz0))] H := hP
  have hD : va_D A [(ro, .inr (3, [.int 40, .ref q_23, .ref q_33, .ref q_43, .null, .int 0])), (q_23, .inl (cI, 40, .inl zz0)), (q_33, .inl (cI, 40, .inl zz0)), (q_43, .inl (cI, 40, .inl zz0)), (q_53, .inl (cI, 40, .inl zz0))] := hD
  refine zk_putF (ws' := [(ro, .inr (3, [.int 40, .ref q_23, .ref q_33, .ref q_43, .ref q_53, .int 0])), (q_23, .inl (cI, 40, .inl zz0)), (q_33, .inl (cI, 40, .inl zz0)), (q_43, .inl (cI, 40, .inl zz0)), (q_53, .inl (cI, 40, .inl zz0))]) X hE hin sX3_init_55 hP hD hS 0 rfl (Nat.le_of_ble_eq_true rfl) rfl rfl rfl (fun H locs hP hD hS => ?_)
  have hq := hret  (q_23, q_33, q_43, q_53) H locs 58 ls
  dsimp only at hq
  exact hq trivial hP hD hS dX3_init_58
set_option maxHeartbeats 4000000 in
set_option maxRecDepth 100000 in
theorem c_X3_init_300 (l : Launch) (D : va_G) (cI cZ : ClassId) (ts : Nat → Nat) (ro : Nat)  : zk_Mv l yX3_init wsX3_init ({ frames := 1, cells := 4, slots := 1200, locals := 14 } : Room) D cI cZ ts [.ref ro, .int 300] [(ro, .inr (3, [.int 0, .null, .null, .null, .null, .int 0]))] (fun (u : Nat × Nat × Nat × Nat) => True) (fun (u : Nat × Nat × Nat × Nat) => [(ro, .inr (3, [.int (nI 300), .ref u.1, .ref u.2.1, .ref u.2.2.1, .ref u.2.2.2, .int (nI 0)])), (u.1, .inl (cI, 300, .inl zz0)), (u.2.1, .inl (cI, 300, .inl zz0)), (u.2.2.1, .inl (cI, 300, .inl zz0)), (u.2.2.2, .inl (cI, 300, .inl zz0))]) 4 1200 := by
  refine zk_Mv.of (cc := cX3_init) (maxL := 2) RX3 (by decide) rfl (Nat.le_of_ble_eq_true rfl) rfl ?_
  intro p e s m below meth c A Q H locs ls X hE hA hin hP hD hS hret hl
  obtain ⟨hx, hb, hml, hown, hts⟩ := id X
  have hl : lv_has ls 2 [(0, .ref ro), (1, .int 300)] := hl
  refine lv_aload_n hx hb dX3_init_0 rfl (lv_at hl 0 rfl) ?_
  refine W.objInit hx hb hown (hts (.methodLink RX3 3 objectInit) (by decide +kernel)) (hts (.instanceMethod objectInit) (by decide +kernel)) (hts _ (List.mem_of_getElem? (i := 3) rfl)) rfl (by rw [hml]; exact hl.1) rfl dX3_init_1 (Nat.le_of_ble_eq_true rfl) (Nat.le_of_ble_eq_true rfl) ?_
  refine W.eq (g2 := F0 m 4 ls []) rfl ?_
  refine lv_aload_n hx hb dX3_init_4 rfl (lv_at hl 0 rfl) ?_
  refine lv_iconst (v := 0) hx hb dX3_init_5 (by decide) ?_
  refine zk_put (ws' := [(ro, .inr (3, [.int 0, .null, .null, .null, .null, .int 0]))]) X hE sX3_init_6 hP hD hS 0 rfl (Nat.le_of_ble_eq_true rfl) rfl (fun H locs hP hD hS => ?_)
  refine lv_aload_n hx hb dX3_init_9 rfl (lv_at hl 0 rfl) ?_
  refine lv_iload_n hx hb dX3_init_10 rfl (lv_at hl 1 rfl) ?_
  refine lv_iconst (v := 0) hx hb dX3_init_11 (by decide) ?_
  refine va_mmax hx hb (hml.trans hl.1.symm) hown (hts (.methodLink RX3 15 Lib.Math.max.name) (by decide +kernel)) (hts (.static Lib.Math.max.name) (by decide +kernel)) (hts (.initialized "java/lang/Math") (by decide +kernel)) (hts _ (List.mem_of_getElem? (i := 8) rfl)) (Nat.le_of_ble_eq_true rfl) (Nat.le_of_ble_eq_true rfl) (Nat.le_of_ble_eq_true rfl) (Nat.le_of_ble_eq_true rfl) dX3_init_12 ?_
  refine zk_top (show (if 300 < 0 then 0 else 300 : Int32) = 300 from (by decide)) ?_
  refine zk_putF (ws' := [(ro, .inr (3, [.int 300, .null, .null, .null, .null, .int 0]))]) X hE hin sX3_init_15 hP hD hS 0 rfl (Nat.le_of_ble_eq_true rfl) rfl rfl rfl (fun H locs hP hD hS => ?_)
  refine lv_aload_n hx hb dX3_init_18 rfl (lv_at hl 0 rfl) ?_
  refine lv_aload_n hx hb dX3_init_19 rfl (lv_at hl 0 rfl) ?_
  refine zk_get X hE sX3_init_20 hP 0 rfl rfl ?_
  refine zk_newI (N := 300) hx hb (hts (.arrayClass .int) (by decide +kernel)) hE hP hD hS hA (by decide) (by decide) (Nat.le_of_ble_eq_true rfl) (Nat.le_of_ble_eq_true rfl) (Nat.le_of_ble_eq_true rfl) dX3_init_23 (fun q_23 H hP hD hS => ?_)
  have hP : va_P D vwCl [(ro, .inr (3, [.int 300, .null, .null, .null, .null, .int 0])), (q_23, .inl (cI, 300, .inl zz0))] H := hP
  have hD : va_D A [(ro, .inr (3, [.int 300, .null, .null, .null, .null, .int 0])), (q_23, .inl (cI, 300, .inl zz0))] := hD
  refine zk_putF (ws' := [(ro, .inr (3, [.int 300, .ref q_23, .null, .null, .null, .int 0])), (q_23, .inl (cI, 300, .inl zz0))]) X hE hin sX3_init_25 hP hD hS 0 rfl (Nat.le_of_ble_eq_true rfl) rfl rfl rfl (fun H locs hP hD hS => ?_)
  refine lv_aload_n hx hb dX3_init_28 rfl (lv_at hl 0 rfl) ?_
  refine lv_aload_n hx hb dX3_init_29 rfl (lv_at hl 0 rfl) ?_
  refine zk_get X hE sX3_init_30 hP 0 rfl rfl ?_
  refine zk_newI (N := 300) hx hb (hts (.arrayClass .int) (by decide +kernel)) hE hP hD hS hA (by decide) (by decide) (Nat.le_of_ble_eq_true rfl) (Nat.le_of_ble_eq_true rfl) (Nat.le_of_ble_eq_true rfl) dX3_init_33 (fun q_33 H hP hD hS => ?_)
  have hP : va_P D vwCl [(ro, .inr (3, [.int 300, .ref q_23, .null, .null, .null, .int 0])), (q_23, .inl (cI, 300, .inl zz0)), (q_33, .inl (cI, 300, .inl zz0))] H := hP
  have hD : va_D A [(ro, .inr (3, [.int 300, .ref q_23, .null, .null, .null, .int 0])), (q_23, .inl (cI, 300, .inl zz0)), (q_33, .inl (cI, 300, .inl zz0))] := hD
  refine zk_putF (ws' := [(ro, .inr (3, [.int 300, .ref q_23, .ref q_33, .null, .null, .int 0])), (q_23, .inl (cI, 300, .inl zz0)), (q_33, .inl (cI, 300, .inl zz0))]) X hE hin sX3_init_35 hP hD hS 0 rfl (Nat.le_of_ble_eq_true rfl) rfl rfl rfl (fun H locs hP hD hS => ?_)
  refine lv_aload_n hx hb dX3_init_38 rfl (lv_at hl 0 rfl) ?_
  refine lv_aload_n hx hb dX3_init_39 rfl (lv_at hl 0 rfl) ?_
  refine zk_get X hE sX3_init_40 hP 0 rfl rfl ?_
  refine zk_newI (N := 300) hx hb (hts (.arrayClass .int) (by decide +kernel)) hE hP hD hS hA (by decide) (by decide) (Nat.le_of_ble_eq_true rfl) (Nat.le_of_ble_eq_true rfl) (Nat.le_of_ble_eq_true rfl) dX3_init_43 (fun q_43 H hP hD hS => ?_)
  have hP : va_P D vwCl [(ro, .inr (3, [.int 300, .ref q_23, .ref q_33, .null, .null, .int 0])), (q_23, .inl (cI, 300, .inl zz0)), (q_33, .inl (cI, 300, .inl zz0)), (q_43, .inl (cI, 300, .inl zz0))] H := hP
  have hD : va_D A [(ro, .inr (3, [.int 300, .ref q_23, .ref q_33, .null, .null, .int 0])), (q_23, .inl (cI, 300, .inl zz0)), (q_33, .inl (cI, 300, .inl zz0)), (q_43, .inl (cI, 300, .inl zz0))] := hD
  refine zk_putF (ws' := [(ro, .inr (3, [.int 300, .ref q_23, .ref q_33, .ref q_43, .null, .int 0])), (q_23, .inl (cI, 300, .inl zz0)), (q_33, .inl (cI, 300, .inl zz0)), (q_43, .inl (cI, 300, .inl zz0))]) X hE hin sX3_init_45 hP hD hS 0 rfl (Nat.le_of_ble_eq_true rfl) rfl rfl rfl (fun H locs hP hD hS => ?_)
  refine lv_aload_n hx hb dX3_init_48 rfl (lv_at hl 0 rfl) ?_
  refine lv_aload_n hx hb dX3_init_49 rfl (lv_at hl 0 rfl) ?_
  refine zk_get X hE sX3_init_50 hP 0 rfl rfl ?_
  refine zk_newI (N := 300) hx hb (hts (.arrayClass .int) (by decide +kernel)) hE hP hD hS hA (by decide) (by decide) (Nat.le_of_ble_eq_true rfl) (Nat.le_of_ble_eq_true rfl) (Nat.le_of_ble_eq_true rfl) dX3_init_53 (fun q_53 H hP hD hS => ?_)
  have hP : va_P D vwCl [(ro, .inr (3, [.int 300, .ref q_23, .ref q_33, .ref q_43, .null, .int 0])), (q_23, .inl (cI, 300, .inl zz0)), (q_33, .inl (cI, 300, .inl zz0)), (q_43, .inl (cI, 300, .inl zz0)), (q_53, .inl (cI, 300, .inl zz0))] H := hP
  have hD : va_D A [(ro, .inr (3, [.int 300, .ref q_23, .ref q_33, .ref q_43, .null, .int 0])), (q_23, .inl (cI, 300, .inl zz0)), (q_33, .inl (cI, 300, .inl zz0)), (q_43, .inl (cI, 300, .inl zz0)), (q_53, .inl (cI, 300, .inl zz0))] := hD
  refine zk_putF (ws' := [(ro, .inr (3, [.int 300, .ref q_23, .ref q_33, .ref q_43, .ref q_53, .int 0])), (q_23, .inl (cI, 300, .inl zz0)), (q_33, .inl (cI, 300, .inl zz0)), (q_43, .inl (cI, 300, .inl zz0)), (q_53, .inl (cI, 300, .inl zz0))]) X hE hin sX3_init_55 hP hD hS 0 rfl (Nat.le_of_ble_eq_true rfl) rfl rfl rfl (fun H locs hP hD hS => ?_)
  have hq := hret  (q_23, q_33, q_43, q_53) H locs 58 ls
  dsimp only at hq
  exact hq trivial hP hD hS dX3_init_58
set_option maxHeartbeats 4000000 in
set_option maxRecDepth 100000 in
theorem c_X5_init (l : Launch) (D : va_G) (cI cZ : ClassId) (ts : Nat → Nat) (to : Nat)  : zk_Mv l yX5_init wsX5_init ({ frames := 2, cells := 9, slots := 79, locals := 35 } : Room) D cI cZ ts [.ref to] [(to, .inr (5, [.null, .null, .null, .null, .null, .int 0]))] (fun (u : Nat × Nat × Nat × Nat × Nat × Nat × Nat × Nat × Nat) => True) (fun (u : Nat × Nat × Nat × Nat × Nat × Nat × Nat × Nat × Nat) => [(to, .inr (5, [.ref u.1, .ref u.2.1, .ref u.2.2.1, .ref u.2.2.2.1, .ref u.2.2.2.2.1, .int 0])), (u.1, .inl (cI, 4, .inl zk_fw)), (u.2.1, .inl (cI, 11, .inl zk_fp)), (u.2.2.1, .inl (cI, 6, .inl zk_fr)), (u.2.2.2.1, .inr (2, [.int 0, .int 0, .int 0, .int 0])), (u.2.2.2.2.1, .inr (3, [.int (nI 12), .ref u.2.2.2.2.2.1, .ref u.2.2.2.2.2.2.1, .ref u.2.2.2.2.2.2.2.1, .ref u.2.2.2.2.2.2.2.2, .int (nI 0)])), (u.2.2.2.2.2.1, .inl (cI, 12, .inl zz0)), (u.2.2.2.2.2.2.1, .inl (cI, 12, .inl zz0)), (u.2.2.2.2.2.2.2.1, .inl (cI, 12, .inl zz0)), (u.2.2.2.2.2.2.2.2, .inl (cI, 12, .inl zz0))]) 9 79 := by
  refine zk_Mv.of (cc := cX5_init) (maxL := 1) RX5 (by decide) rfl (Nat.le_of_ble_eq_true rfl) rfl ?_
  intro p e s m below meth c A Q H locs ls X hE hA hin hP hD hS hret hl
  obtain ⟨hx, hb, hml, hown, hts⟩ := id X
  have hl : lv_has ls 1 [(0, .ref to)] := hl
  refine lv_aload_n hx hb dX5_init_0 rfl (lv_at hl 0 rfl) ?_
  refine W.objInit hx hb hown (hts (.methodLink RX5 3 objectInit) (by decide +kernel)) (hts (.instanceMethod objectInit) (by decide +kernel)) (hts _ (List.mem_of_getElem? (i := 3) rfl)) rfl (by rw [hml]; exact hl.1) rfl dX5_init_1 (Nat.le_of_ble_eq_true rfl) (Nat.le_of_ble_eq_true rfl) ?_
  refine W.eq (g2 := F0 m 4 ls []) rfl ?_
  refine lv_aload_n hx hb dX5_init_4 rfl (lv_at hl 0 rfl) ?_
  refine va_getsN hx hb hE.2.2.1.1 hS hown (va_Nw.use rfl (hE.2.1 _ (List.mem_of_getElem? (i := 10) rfl))) (fun _ h => h) dX5_init_5 ?_
  refine zk_cln hx hb (hml.trans hl.1.symm) hown (hts (.methodLink RX5 13 ⟨"[I", "clone", "()Ljava/lang/Object;"⟩) (by decide +kernel)) (hts (.sameMethod "[I" "java/lang/Object" "clone" "()Ljava/lang/Object;") (by decide +kernel)) (hts (.native ⟨"java/lang/Object", "clone", "()Ljava/lang/Object;"⟩) (by decide +kernel)) (hts (.instanceMethod ⟨"java/lang/Object", "clone", "()Ljava/lang/Object;"⟩) (by decide +kernel)) (hts (.selects "[I" ⟨"[I", "clone", "()Ljava/lang/Object;"⟩ ⟨"java/lang/Object", "clone", "()Ljava/lang/Object;"⟩) (by decide +kernel)) hE hE.2.2.1 hP hD hS hA (Nat.le_of_ble_eq_true rfl) (Nat.le_of_ble_eq_true rfl) (Nat.le_of_ble_eq_true rfl) (Nat.le_of_ble_eq_true rfl) dX5_init_8 (fun q_8 H hP hD hS => ?_)
  have hP : va_P D vwCl [(to, .inr (5, [.null, .null, .null, .null, .null, .int 0])), (q_8, .inl (cI, 4, .inl zk_fw))] H := hP
  have hD : va_D A [(to, .inr (5, [.null, .null, .null, .null, .null, .int 0])), (q_8, .inl (cI, 4, .inl zk_fw))] := hD
  refine va_castA hx hb hown (hts (.classLink RX5 14 "[I") (by decide +kernel)) hP 1 rfl (zk_nmI hE) dX5_init_11 ?_
  refine zk_putF (ws' := [(to, .inr (5, [.ref q_8, .null, .null, .null, .null, .int 0])), (q_8, .inl (cI, 4, .inl zk_fw))]) X hE hin sX5_init_14 hP hD hS 0 rfl (Nat.le_of_ble_eq_true rfl) rfl rfl rfl (fun H locs hP hD hS => ?_)
  refine lv_aload_n hx hb dX5_init_17 rfl (lv_at hl 0 rfl) ?_
  refine va_getsN hx hb hE.2.2.2.1.1 hS hown (va_Nw.use rfl (hE.2.1 _ (List.mem_of_getElem? (i := 11) rfl))) (fun _ h => h) dX5_init_18 ?_
  refine zk_cln hx hb (hml.trans hl.1.symm) hown (hts (.methodLink RX5 13 ⟨"[I", "clone", "()Ljava/lang/Object;"⟩) (by decide +kernel)) (hts (.sameMethod "[I" "java/lang/Object" "clone" "()Ljava/lang/Object;") (by decide +kernel)) (hts (.native ⟨"java/lang/Object", "clone", "()Ljava/lang/Object;"⟩) (by decide +kernel)) (hts (.instanceMethod ⟨"java/lang/Object", "clone", "()Ljava/lang/Object;"⟩) (by decide +kernel)) (hts (.selects "[I" ⟨"[I", "clone", "()Ljava/lang/Object;"⟩ ⟨"java/lang/Object", "clone", "()Ljava/lang/Object;"⟩) (by decide +kernel)) hE hE.2.2.2.1 hP hD hS hA (Nat.le_of_ble_eq_true rfl) (Nat.le_of_ble_eq_true rfl) (Nat.le_of_ble_eq_true rfl) (Nat.le_of_ble_eq_true rfl) dX5_init_21 (fun q_21 H hP hD hS => ?_)
  have hP : va_P D vwCl [(to, .inr (5, [.ref q_8, .null, .null, .null, .null, .int 0])), (q_8, .inl (cI, 4, .inl zk_fw)), (q_21, .inl (cI, 11, .inl zk_fp))] H := hP
  have hD : va_D A [(to, .inr (5, [.ref q_8, .null, .null, .null, .null, .int 0])), (q_8, .inl (cI, 4, .inl zk_fw)), (q_21, .inl (cI, 11, .inl zk_fp))] := hD
  refine va_castA hx hb hown (hts (.classLink RX5 14 "[I") (by decide +kernel)) hP 2 rfl (zk_nmI hE) dX5_init_24 ?_
  refine zk_putF (ws' := [(to, .inr (5, [.ref q_8, .ref q_21, .null, .null, .null, .int 0])), (q_8, .inl (cI, 4, .inl zk_fw)), (q_21, .inl (cI, 11, .inl zk_fp))]) X hE hin sX5_init_27 hP hD hS 0 rfl (Nat.le_of_ble_eq_true rfl) rfl rfl rfl (fun H locs hP hD hS => ?_)
  refine lv_aload_n hx hb dX5_init_30 rfl (lv_at hl 0 rfl) ?_
  refine va_getsN hx hb hE.2.2.2.2.1.1 hS hown (va_Nw.use rfl (hE.2.1 _ (List.mem_of_getElem? (i := 12) rfl))) (fun _ h => h) dX5_init_31 ?_
  refine zk_cln hx hb (hml.trans hl.1.symm) hown (hts (.methodLink RX5 13 ⟨"[I", "clone", "()Ljava/lang/Object;"⟩) (by decide +kernel)) (hts (.sameMethod "[I" "java/lang/Object" "clone" "()Ljava/lang/Object;") (by decide +kernel)) (hts (.native ⟨"java/lang/Object", "clone", "()Ljava/lang/Object;"⟩) (by decide +kernel)) (hts (.instanceMethod ⟨"java/lang/Object", "clone", "()Ljava/lang/Object;"⟩) (by decide +kernel)) (hts (.selects "[I" ⟨"[I", "clone", "()Ljava/lang/Object;"⟩ ⟨"java/lang/Object", "clone", "()Ljava/lang/Object;"⟩) (by decide +kernel)) hE hE.2.2.2.2.1 hP hD hS hA (Nat.le_of_ble_eq_true rfl) (Nat.le_of_ble_eq_true rfl) (Nat.le_of_ble_eq_true rfl) (Nat.le_of_ble_eq_true rfl) dX5_init_34 (fun q_34 H hP hD hS => ?_)
  have hP : va_P D vwCl [(to, .inr (5, [.ref q_8, .ref q_21, .null, .null, .null, .int 0])), (q_8, .inl (cI, 4, .inl zk_fw)), (q_21, .inl (cI, 11, .inl zk_fp)), (q_34, .inl (cI, 6, .inl zk_fr))] H := hP
  have hD : va_D A [(to, .inr (5, [.ref q_8, .ref q_21, .null, .null, .null, .int 0])), (q_8, .inl (cI, 4, .inl zk_fw)), (q_21, .inl (cI, 11, .inl zk_fp)), (q_34, .inl (cI, 6, .inl zk_fr))] := hD
  refine va_castA hx hb hown (hts (.classLink RX5 14 "[I") (by decide +kernel)) hP 3 rfl (zk_nmI hE) dX5_init_37 ?_
  refine zk_putF (ws' := [(to, .inr (5, [.ref q_8, .ref q_21, .ref q_34, .null, .null, .int 0])), (q_8, .inl (cI, 4, .inl zk_fw)), (q_21, .inl (cI, 11, .inl zk_fp)), (q_34, .inl (cI, 6, .inl zk_fr))]) X hE hin sX5_init_40 hP hD hS 0 rfl (Nat.le_of_ble_eq_true rfl) rfl rfl rfl (fun H locs hP hD hS => ?_)
  refine lv_aload_n hx hb dX5_init_43 rfl (lv_at hl 0 rfl) ?_
  refine va_new (c0 := c) (N := 4) (ci := 2) hx hb hts iwX5_init_2 tyX2 tyX2_ok hown (hts (.classLink RX5 35 RX2) (by decide +kernel)) (hts (.instantiable RX2 4) (by decide +kernel)) (hts (.initialized RX2) (by decide +kernel)) hE.1 hP hD hS hA rfl dfX2 (Nat.le_of_ble_eq_true rfl) (Nat.le_of_ble_eq_true rfl) dX5_init_44 (fun q_44 H hP hD hS => ?_)
  have hP : va_P D vwCl [(to, .inr (5, [.ref q_8, .ref q_21, .ref q_34, .null, .null, .int 0])), (q_8, .inl (cI, 4, .inl zk_fw)), (q_21, .inl (cI, 11, .inl zk_fp)), (q_34, .inl (cI, 6, .inl zk_fr)), (q_44, .inr (2, [.int 0, .int 0, .int 0, .int 0]))] H := hP
  have hD : va_D A [(to, .inr (5, [.ref q_8, .ref q_21, .ref q_34, .null, .null, .int 0])), (q_8, .inl (cI, 4, .inl zk_fw)), (q_21, .inl (cI, 11, .inl zk_fp)), (q_34, .inl (cI, 6, .inl zk_fr)), (q_44, .inr (2, [.int 0, .int 0, .int 0, .int 0]))] := hD
  refine lv_dup hx hb dX5_init_47 rfl ?_
  refine zk_cINv (rest := [.ref q_44, .ref to]) (wr := [(to, .inr (5, [.ref q_8, .ref q_21, .ref q_34, .null, .null, .int 0])), (q_8, .inl (cI, 4, .inl zk_fw)), (q_21, .inl (cI, 11, .inl zk_fp)), (q_34, .inl (cI, 6, .inl zk_fr))]) X hE hA (c_X2_init l D cI cZ ts q_44) ⟨va_cnB 0 hts gX5_init_X2_init_n37 rfl rfl rfl (hE.2.1 _ (List.mem_of_getElem? (i := 1) rfl)) (hts (.initialized RX2) (by decide +kernel)) hdX2_init.2 ⟨Nat.le_of_ble_eq_true rfl, Nat.le_of_ble_eq_true rfl⟩, rfl, hts (.instanceMethod yX2_init) (by decide +kernel)⟩ dX5_init_48 hP hD hS [4] [0, 1, 2, 3] ⟨rfl, trivial⟩ ⟨rfl, rfl, rfl, rfl, trivial⟩ (by decide +kernel) (by decide +kernel) (by decide +kernel) rfl hl rfl (Nat.le_of_ble_eq_true rfl) ⟨Nat.le_of_ble_eq_true rfl, Nat.le_of_ble_eq_true rfl⟩ (fun _ H locs hw_48 hP hD hS => ?_)
  have hP : va_P D vwCl [(to, .inr (5, [.ref q_8, .ref q_21, .ref q_34, .null, .null, .int 0])), (q_8, .inl (cI, 4, .inl zk_fw)), (q_21, .inl (cI, 11, .inl zk_fp)), (q_34, .inl (cI, 6, .inl zk_fr)), (q_44, .inr (2, [.int 0, .int 0, .int 0, .int 0]))] H := hP
  have hD : va_D A [(to, .inr (5, [.ref q_8, .ref q_21, .ref q_34, .null, .null, .int 0])), (q_8, .inl (cI, 4, .inl zk_fw)), (q_21, .inl (cI, 11, .inl zk_fp)), (q_34, .inl (cI, 6, .inl zk_fr)), (q_44, .inr (2, [.int 0, .int 0, .int 0, .int 0]))] := hD
  refine zk_putF (ws' := [(to, .inr (5, [.ref q_8, .ref q_21, .ref q_34, .ref q_44, .null, .int 0])), (q_8, .inl (cI, 4, .inl zk_fw)), (q_21, .inl (cI, 11, .inl zk_fp)), (q_34, .inl (cI, 6, .inl zk_fr)), (q_44, .inr (2, [.int 0, .int 0, .int 0, .int 0]))]) X hE hin sX5_init_51 hP hD hS 0 rfl (Nat.le_of_ble_eq_true rfl) rfl rfl rfl (fun H locs hP hD hS => ?_)
  refine lv_aload_n hx hb dX5_init_54 rfl (lv_at hl 0 rfl) ?_
  refine va_new (c0 := c) (N := 6) (ci := 3) hx hb hts iwX5_init_3 tyX3 tyX3_ok hown (hts (.classLink RX5 42 RX3) (by decide +kernel)) (hts (.instantiable RX3 6) (by decide +kernel)) (hts (.initialized RX3) (by decide +kernel)) hE.1 hP hD hS hA rfl dfX3 (Nat.le_of_ble_eq_true rfl) (Nat.le_of_ble_eq_true rfl) dX5_init_55 (fun q_55 H hP hD hS => ?_)
  have hP : va_P D vwCl [(to, .inr (5, [.ref q_8, .ref q_21, .ref q_34, .ref q_44, .null, .int 0])), (q_8, .inl (cI, 4, .inl zk_fw)), (q_21, .inl (cI, 11, .inl zk_fp)), (q_34, .inl (cI, 6, .inl zk_fr)), (q_44, .inr (2, [.int 0, .int 0, .int 0, .int 0])), (q_55, .inr (3, [.int 0, .null, .null, .null, .null, .int 0]))] H := hP
  have hD : va_D A [(to, .inr (5, [.ref q_8, .ref q_21, .ref q_34, .ref q_44, .null, .int 0])), (q_8, .inl (cI, 4, .inl zk_fw)), (q_21, .inl (cI, 11, .inl zk_fp)), (q_34, .inl (cI, 6, .inl zk_fr)), (q_44, .inr (2, [.int 0, .int 0, .int 0, .int 0])), (q_55, .inr (3, [.int 0, .null, .null, .null, .null, .int 0]))] := hD
  refine lv_dup hx hb dX5_init_58 rfl ?_
  refine lv_bipush (v := 12) hx hb dX5_init_59 (by decide) ?_
  refine zk_cIv (rest := [.ref q_55, .ref to]) (wr := [(to, .inr (5, [.ref q_8, .ref q_21, .ref q_34, .ref q_44, .null, .int 0])), (q_8, .inl (cI, 4, .inl zk_fw)), (q_21, .inl (cI, 11, .inl zk_fp)), (q_34, .inl (cI, 6, .inl zk_fr)), (q_44, .inr (2, [.int 0, .int 0, .int 0, .int 0]))]) X hE hA (c_X3_init_12 l D cI cZ ts q_55) (cwI 1 hts gX5_init_X3_init rfl rfl rfl (hts (.initialized RX3) (by decide +kernel)) (hts (.methodLink RX5 44 yX3_init) (by decide +kernel)) (hts (.instanceMethod yX3_init) (by decide +kernel)) rfl hdX3_init.2 ⟨Nat.le_of_ble_eq_true rfl, Nat.le_of_ble_eq_true rfl⟩) dX5_init_61 hP hD hS [5] [0, 1, 2, 3, 4] ⟨rfl, trivial⟩ ⟨rfl, rfl, rfl, rfl, rfl, trivial⟩ (by decide +kernel) (by decide +kernel) (by decide +kernel) rfl hl rfl (Nat.le_of_ble_eq_true rfl) ⟨Nat.le_of_ble_eq_true rfl, Nat.le_of_ble_eq_true rfl⟩ (fun u_61 H locs hw_61 hP hD hS => ?_)
  obtain ⟨a0_1, a1_2, a2_3, a3_4⟩ := u_61
  have hP : va_P D vwCl [(to, .inr (5, [.ref q_8, .ref q_21, .ref q_34, .ref q_44, .null, .int 0])), (q_8, .inl (cI, 4, .inl zk_fw)), (q_21, .inl (cI, 11, .inl zk_fp)), (q_34, .inl (cI, 6, .inl zk_fr)), (q_44, .inr (2, [.int 0, .int 0, .int 0, .int 0])), (q_55, .inr (3, [.int (nI 12), .ref a0_1, .ref a1_2, .ref a2_3, .ref a3_4, .int (nI 0)])), (a0_1, .inl (cI, 12, .inl zz0)), (a1_2, .inl (cI, 12, .inl zz0)), (a2_3, .inl (cI, 12, .inl zz0)), (a3_4, .inl (cI, 12, .inl zz0))] H := hP
  have hD : va_D A [(to, .inr (5, [.ref q_8, .ref q_21, .ref q_34, .ref q_44, .null, .int 0])), (q_8, .inl (cI, 4, .inl zk_fw)), (q_21, .inl (cI, 11, .inl zk_fp)), (q_34, .inl (cI, 6, .inl zk_fr)), (q_44, .inr (2, [.int 0, .int 0, .int 0, .int 0])), (q_55, .inr (3, [.int (nI 12), .ref a0_1, .ref a1_2, .ref a2_3, .ref a3_4, .int (nI 0)])), (a0_1, .inl (cI, 12, .inl zz0)), (a1_2, .inl (cI, 12, .inl zz0)), (a2_3, .inl (cI, 12, .inl zz0)), (a3_4, .inl (cI, 12, .inl zz0))] := hD
  refine zk_putF (ws' := [(to, .inr (5, [.ref q_8, .ref q_21, .ref q_34, .ref q_44, .ref q_55, .int 0])), (q_8, .inl (cI, 4, .inl zk_fw)), (q_21, .inl (cI, 11, .inl zk_fp)), (q_34, .inl (cI, 6, .inl zk_fr)), (q_44, .inr (2, [.int 0, .int 0, .int 0, .int 0])), (q_55, .inr (3, [.int (nI 12), .ref a0_1, .ref a1_2, .ref a2_3, .ref a3_4, .int (nI 0)])), (a0_1, .inl (cI, 12, .inl zz0)), (a1_2, .inl (cI, 12, .inl zz0)), (a2_3, .inl (cI, 12, .inl zz0)), (a3_4, .inl (cI, 12, .inl zz0))]) X hE hin sX5_init_64 hP hD hS 0 rfl (Nat.le_of_ble_eq_true rfl) rfl rfl rfl (fun H locs hP hD hS => ?_)
  refine lv_aload_n hx hb dX5_init_67 rfl (lv_at hl 0 rfl) ?_
  refine lv_iconst (v := 0) hx hb dX5_init_68 (by decide) ?_
  refine zk_put (ws' := [(to, .inr (5, [.ref q_8, .ref q_21, .ref q_34, .ref q_44, .ref q_55, .int 0])), (q_8, .inl (cI, 4, .inl zk_fw)), (q_21, .inl (cI, 11, .inl zk_fp)), (q_34, .inl (cI, 6, .inl zk_fr)), (q_44, .inr (2, [.int 0, .int 0, .int 0, .int 0])), (q_55, .inr (3, [.int (nI 12), .ref a0_1, .ref a1_2, .ref a2_3, .ref a3_4, .int (nI 0)])), (a0_1, .inl (cI, 12, .inl zz0)), (a1_2, .inl (cI, 12, .inl zz0)), (a2_3, .inl (cI, 12, .inl zz0)), (a3_4, .inl (cI, 12, .inl zz0))]) X hE sX5_init_69 hP hD hS 0 rfl (Nat.le_of_ble_eq_true rfl) rfl (fun H locs hP hD hS => ?_)
  have hq := hret  (q_8, q_21, q_34, q_44, q_55, a0_1, a1_2, a2_3, a3_4) H locs 72 ls
  dsimp only at hq
  exact hq trivial hP hD hS dX5_init_72
set_option maxHeartbeats 4000000 in
set_option maxRecDepth 100000 in
theorem c_X4_init (l : Launch) (D : va_G) (cI cZ : ClassId) (ts : Nat → Nat) (so : Nat)  : zk_Mv l yX4_init wsX4_init ({ frames := 2, cells := 12, slots := 230, locals := 35 } : Room) D cI cZ ts [.ref so] [(so, .inr (4, [.null, .null, .null, .null, .null, .null, .null, .null, .int 0, .int 0]))] (fun (u : Nat × Nat × Nat × Nat × Nat × Nat × Nat × Nat × Nat × Nat × Nat × Nat) => True) (fun (u : Nat × Nat × Nat × Nat × Nat × Nat × Nat × Nat × Nat × Nat × Nat × Nat) => [(so, .inr (4, [.ref u.1, .ref u.2.1, .ref u.2.2.1, .ref u.2.2.2.1, .ref u.2.2.2.2.1, .ref u.2.2.2.2.2.1, .ref u.2.2.2.2.2.2.1, .ref u.2.2.2.2.2.2.2.1, .int 0, .int 0])), (u.1, .inr (2, [.int 0, .int 0, .int 0, .int 0])), (u.2.1, .inr (2, [.int 0, .int 0, .int 0, .int 0])), (u.2.2.1, .inr (2, [.int 0, .int 0, .int 0, .int 0])), (u.2.2.2.1, .inr (2, [.int 0, .int 0, .int 0, .int 0])), (u.2.2.2.2.1, .inr (2, [.int 0, .int 0, .int 0, .int 0])), (u.2.2.2.2.2.1, .inr (2, [.int 0, .int 0, .int 0, .int 0])), (u.2.2.2.2.2.2.1, .inr (3, [.int (nI 40), .ref u.2.2.2.2.2.2.2.2.1, .ref u.2.2.2.2.2.2.2.2.2.1, .ref u.2.2.2.2.2.2.2.2.2.2.1, .ref u.2.2.2.2.2.2.2.2.2.2.2, .int (nI 0)])), (u.2.2.2.2.2.2.2.2.1, .inl (cI, 40, .inl zz0)), (u.2.2.2.2.2.2.2.2.2.1, .inl (cI, 40, .inl zz0)), (u.2.2.2.2.2.2.2.2.2.2.1, .inl (cI, 40, .inl zz0)), (u.2.2.2.2.2.2.2.2.2.2.2, .inl (cI, 40, .inl zz0)), (u.2.2.2.2.2.2.2.1, .inl (cI, 40, .inl zz0))]) 12 230 := by
  refine zk_Mv.of (cc := cX4_init) (maxL := 1) RX4 (by decide) rfl (Nat.le_of_ble_eq_true rfl) rfl ?_
  intro p e s m below meth c A Q H locs ls X hE hA hin hP hD hS hret hl
  obtain ⟨hx, hb, hml, hown, hts⟩ := id X
  have hl : lv_has ls 1 [(0, .ref so)] := hl
  refine lv_aload_n hx hb dX4_init_0 rfl (lv_at hl 0 rfl) ?_
  refine W.objInit hx hb hown (hts (.methodLink RX4 3 objectInit) (by decide +kernel)) (hts (.instanceMethod objectInit) (by decide +kernel)) (hts _ (List.mem_of_getElem? (i := 3) rfl)) rfl (by rw [hml]; exact hl.1) rfl dX4_init_1 (Nat.le_of_ble_eq_true rfl) (Nat.le_of_ble_eq_true rfl) ?_
  refine W.eq (g2 := F0 m 4 ls []) rfl ?_
  refine lv_aload_n hx hb dX4_init_4 rfl (lv_at hl 0 rfl) ?_
  refine va_new (c0 := c) (N := 4) (ci := 2) hx hb hts iwX4_init_2 tyX2 tyX2_ok hown (hts (.classLink RX4 9 RX2) (by decide +kernel)) (hts (.instantiable RX2 4) (by decide +kernel)) (hts (.initialized RX2) (by decide +kernel)) hE.1 hP hD hS hA rfl dfX2 (Nat.le_of_ble_eq_true rfl) (Nat.le_of_ble_eq_true rfl) dX4_init_5 (fun q_5 H hP hD hS => ?_)
  have hP : va_P D vwCl [(so, .inr (4, [.null, .null, .null, .null, .null, .null, .null, .null, .int 0, .int 0])), (q_5, .inr (2, [.int 0, .int 0, .int 0, .int 0]))] H := hP
  have hD : va_D A [(so, .inr (4, [.null, .null, .null, .null, .null, .null, .null, .null, .int 0, .int 0])), (q_5, .inr (2, [.int 0, .int 0, .int 0, .int 0]))] := hD
  refine lv_dup hx hb dX4_init_8 rfl ?_
  refine zk_cINv (rest := [.ref q_5, .ref so]) (wr := [(so, .inr (4, [.null, .null, .null, .null, .null, .null, .null, .null, .int 0, .int 0]))]) X hE hA (c_X2_init l D cI cZ ts q_5) ⟨va_cnB 0 hts gX4_init_X2_init_n11 rfl rfl rfl (hE.2.1 _ (List.mem_of_getElem? (i := 3) rfl)) (hts (.initialized RX2) (by decide +kernel)) hdX2_init.2 ⟨Nat.le_of_ble_eq_true rfl, Nat.le_of_ble_eq_true rfl⟩, rfl, hts (.instanceMethod yX2_init) (by decide +kernel)⟩ dX4_init_9 hP hD hS [1] [0] ⟨rfl, trivial⟩ ⟨rfl, trivial⟩ (by decide +kernel) (by decide +kernel) (by decide +kernel) rfl hl rfl (Nat.le_of_ble_eq_true rfl) ⟨Nat.le_of_ble_eq_true rfl, Nat.le_of_ble_eq_true rfl⟩ (fun _ H locs hw_9 hP hD hS => ?_)
  have hP : va_P D vwCl [(so, .inr (4, [.null, .null, .null, .null, .null, .null, .null, .null, .int 0, .int 0])), (q_5, .inr (2, [.int 0, .int 0, .int 0, .int 0]))] H := hP
  have hD : va_D A [(so, .inr (4, [.null, .null, .null, .null, .null, .null, .null, .null, .int 0, .int 0])), (q_5, .inr (2, [.int 0, .int 0, .int 0, .int 0]))] := hD
  refine zk_putF (ws' := [(so, .inr (4, [.ref q_5, .null, .null, .null, .null, .null, .null, .null, .int 0, .int 0])), (q_5, .inr (2, [.int 0, .int 0, .int 0, .int 0]))]) X hE hin sX4_init_12 hP hD hS 0 rfl (Nat.le_of_ble_eq_true rfl) rfl rfl rfl (fun H locs hP hD hS => ?_)
  refine lv_aload_n hx hb dX4_init_15 rfl (lv_at hl 0 rfl) ?_
  refine va_new (c0 := c) (N := 4) (ci := 2) hx hb hts iwX4_init_2 tyX2 tyX2_ok hown (hts (.classLink RX4 9 RX2) (by decide +kernel)) (hts (.instantiable RX2 4) (by decide +kernel)) (hts (.initialized RX2) (by decide +kernel)) hE.1 hP hD hS hA rfl dfX2 (Nat.le_of_ble_eq_true rfl) (Nat.le_of_ble_eq_true rfl) dX4_init_16 (fun q_16 H hP hD hS => ?_)
  have hP : va_P D vwCl [(so, .inr (4, [.ref q_5, .null, .null, .null, .null, .null, .null, .null, .int 0, .int 0])), (q_5, .inr (2, [.int 0, .int 0, .int 0, .int 0])), (q_16, .inr (2, [.int 0, .int 0, .int 0, .int 0]))] H := hP
  have hD : va_D A [(so, .inr (4, [.ref q_5, .null, .null, .null, .null, .null, .null, .null, .int 0, .int 0])), (q_5, .inr (2, [.int 0, .int 0, .int 0, .int 0])), (q_16, .inr (2, [.int 0, .int 0, .int 0, .int 0]))] := hD
  refine lv_dup hx hb dX4_init_19 rfl ?_
  refine zk_cINv (rest := [.ref q_16, .ref so]) (wr := [(so, .inr (4, [.ref q_5, .null, .null, .null, .null, .null, .null, .null, .int 0, .int 0])), (q_5, .inr (2, [.int 0, .int 0, .int 0, .int 0]))]) X hE hA (c_X2_init l D cI cZ ts q_16) ⟨va_cnB 0 hts gX4_init_X2_init_n11 rfl rfl rfl (hE.2.1 _ (List.mem_of_getElem? (i := 3) rfl)) (hts (.initialized RX2) (by decide +kernel)) hdX2_init.2 ⟨Nat.le_of_ble_eq_true rfl, Nat.le_of_ble_eq_true rfl⟩, rfl, hts (.instanceMethod yX2_init) (by decide +kernel)⟩ dX4_init_20 hP hD hS [2] [0, 1] ⟨rfl, trivial⟩ ⟨rfl, rfl, trivial⟩ (by decide +kernel) (by decide +kernel) (by decide +kernel) rfl hl rfl (Nat.le_of_ble_eq_true rfl) ⟨Nat.le_of_ble_eq_true rfl, Nat.le_of_ble_eq_true rfl⟩ (fun _ H locs hw_20 hP hD hS => ?_)
  have hP : va_P D vwCl [(so, .inr (4, [.ref q_5, .null, .null, .null, .null, .null, .null, .null, .int 0, .int 0])), (q_5, .inr (2, [.int 0, .int 0, .int 0, .int 0])), (q_16, .inr (2, [.int 0, .int 0, .int 0, .int 0]))] H := hP
  have hD : va_D A [(so, .inr (4, [.ref q_5, .null, .null, .null, .null, .null, .null, .null, .int 0, .int 0])), (q_5, .inr (2, [.int 0, .int 0, .int 0, .int 0])), (q_16, .inr (2, [.int 0, .int 0, .int 0, .int 0]))] := hD
  refine zk_putF (ws' := [(so, .inr (4, [.ref q_5, .ref q_16, .null, .null, .null, .null, .null, .null, .int 0, .int 0])), (q_5, .inr (2, [.int 0, .int 0, .int 0, .int 0])), (q_16, .inr (2, [.int 0, .int 0, .int 0, .int 0]))]) X hE hin sX4_init_23 hP hD hS 0 rfl (Nat.le_of_ble_eq_true rfl) rfl rfl rfl (fun H locs hP hD hS => ?_)
  refine lv_aload_n hx hb dX4_init_26 rfl (lv_at hl 0 rfl) ?_
  refine va_new (c0 := c) (N := 4) (ci := 2) hx hb hts iwX4_init_2 tyX2 tyX2_ok hown (hts (.classLink RX4 9 RX2) (by decide +kernel)) (hts (.instantiable RX2 4) (by decide +kernel)) (hts (.initialized RX2) (by decide +kernel)) hE.1 hP hD hS hA rfl dfX2 (Nat.le_of_ble_eq_true rfl) (Nat.le_of_ble_eq_true rfl) dX4_init_27 (fun q_27 H hP hD hS => ?_)
  have hP : va_P D vwCl [(so, .inr (4, [.ref q_5, .ref q_16, .null, .null, .null, .null, .null, .null, .int 0, .int 0])), (q_5, .inr (2, [.int 0, .int 0, .int 0, .int 0])), (q_16, .inr (2, [.int 0, .int 0, .int 0, .int 0])), (q_27, .inr (2, [.int 0, .int 0, .int 0, .int 0]))] H := hP
  have hD : va_D A [(so, .inr (4, [.ref q_5, .ref q_16, .null, .null, .null, .null, .null, .null, .int 0, .int 0])), (q_5, .inr (2, [.int 0, .int 0, .int 0, .int 0])), (q_16, .inr (2, [.int 0, .int 0, .int 0, .int 0])), (q_27, .inr (2, [.int 0, .int 0, .int 0, .int 0]))] := hD
  refine lv_dup hx hb dX4_init_30 rfl ?_
  refine zk_cINv (rest := [.ref q_27, .ref so]) (wr := [(so, .inr (4, [.ref q_5, .ref q_16, .null, .null, .null, .null, .null, .null, .int 0, .int 0])), (q_5, .inr (2, [.int 0, .int 0, .int 0, .int 0])), (q_16, .inr (2, [.int 0, .int 0, .int 0, .int 0]))]) X hE hA (c_X2_init l D cI cZ ts q_27) ⟨va_cnB 0 hts gX4_init_X2_init_n11 rfl rfl rfl (hE.2.1 _ (List.mem_of_getElem? (i := 3) rfl)) (hts (.initialized RX2) (by decide +kernel)) hdX2_init.2 ⟨Nat.le_of_ble_eq_true rfl, Nat.le_of_ble_eq_true rfl⟩, rfl, hts (.instanceMethod yX2_init) (by decide +kernel)⟩ dX4_init_31 hP hD hS [3] [0, 1, 2] ⟨rfl, trivial⟩ ⟨rfl, rfl, rfl, trivial⟩ (by decide +kernel) (by decide +kernel) (by decide +kernel) rfl hl rfl (Nat.le_of_ble_eq_true rfl) ⟨Nat.le_of_ble_eq_true rfl, Nat.le_of_ble_eq_true rfl⟩ (fun _ H locs hw_31 hP hD hS => ?_)
  have hP : va_P D vwCl [(so, .inr (4, [.ref q_5, .ref q_16, .null, .null, .null, .null, .null, .null, .int 0, .int 0])), (q_5, .inr (2, [.int 0, .int 0, .int 0, .int 0])), (q_16, .inr (2, [.int 0, .int 0, .int 0, .int 0])), (q_27, .inr (2, [.int 0, .int 0, .int 0, .int 0]))] H := hP
  have hD : va_D A [(so, .inr (4, [.ref q_5, .ref q_16, .null, .null, .null, .null, .null, .null, .int 0, .int 0])), (q_5, .inr (2, [.int 0, .int 0, .int 0, .int 0])), (q_16, .inr (2, [.int 0, .int 0, .int 0, .int 0])), (q_27, .inr (2, [.int 0, .int 0, .int 0, .int 0]))] := hD
  refine zk_putF (ws' := [(so, .inr (4, [.ref q_5, .ref q_16, .ref q_27, .null, .null, .null, .null, .null, .int 0, .int 0])), (q_5, .inr (2, [.int 0, .int 0, .int 0, .int 0])), (q_16, .inr (2, [.int 0, .int 0, .int 0, .int 0])), (q_27, .inr (2, [.int 0, .int 0, .int 0, .int 0]))]) X hE hin sX4_init_34 hP hD hS 0 rfl (Nat.le_of_ble_eq_true rfl) rfl rfl rfl (fun H locs hP hD hS => ?_)
  refine lv_aload_n hx hb dX4_init_37 rfl (lv_at hl 0 rfl) ?_
  refine va_new (c0 := c) (N := 4) (ci := 2) hx hb hts iwX4_init_2 tyX2 tyX2_ok hown (hts (.classLink RX4 9 RX2) (by decide +kernel)) (hts (.instantiable RX2 4) (by decide +kernel)) (hts (.initialized RX2) (by decide +kernel)) hE.1 hP hD hS hA rfl dfX2 (Nat.le_of_ble_eq_true rfl) (Nat.le_of_ble_eq_true rfl) dX4_init_38 (fun q_38 H hP hD hS => ?_)
  have hP : va_P D vwCl [(so, .inr (4, [.ref q_5, .ref q_16, .ref q_27, .null, .null, .null, .null, .null, .int 0, .int 0])), (q_5, .inr (2, [.int 0, .int 0, .int 0, .int 0])), (q_16, .inr (2, [.int 0, .int 0, .int 0, .int 0])), (q_27, .inr (2, [.int 0, .int 0, .int 0, .int 0])), (q_38, .inr (2, [.int 0, .int 0, .int 0, .int 0]))] H := hP
  have hD : va_D A [(so, .inr (4, [.ref q_5, .ref q_16, .ref q_27, .null, .null, .null, .null, .null, .int 0, .int 0])), (q_5, .inr (2, [.int 0, .int 0, .int 0, .int 0])), (q_16, .inr (2, [.int 0, .int 0, .int 0, .int 0])), (q_27, .inr (2, [.int 0, .int 0, .int 0, .int 0])), (q_38, .inr (2, [.int 0, .int 0, .int 0, .int 0]))] := hD
  refine lv_dup hx hb dX4_init_41 rfl ?_
  refine zk_cINv (rest := [.ref q_38, .ref so]) (wr := [(so, .inr (4, [.ref q_5, .ref q_16, .ref q_27, .null, .null, .null, .null, .null, .int 0, .int 0])), (q_5, .inr (2, [.int 0, .int 0, .int 0, .int 0])), (q_16, .inr (2, [.int 0, .int 0, .int 0, .int 0])), (q_27, .inr (2, [.int 0, .int 0, .int 0, .int 0]))]) X hE hA (c_X2_init l D cI cZ ts q_38) ⟨va_cnB 0 hts gX4_init_X2_init_n11 rfl rfl rfl (hE.2.1 _ (List.mem_of_getElem? (i := 3) rfl)) (hts (.initialized RX2) (by decide +kernel)) hdX2_init.2 ⟨Nat.le_of_ble_eq_true rfl, Nat.le_of_ble_eq_true rfl⟩, rfl, hts (.instanceMethod yX2_init) (by decide +kernel)⟩ dX4_init_42 hP hD hS [4] [0, 1, 2, 3] ⟨rfl, trivial⟩ ⟨rfl, rfl, rfl, rfl, trivial⟩ (by decide +kernel) (by decide +kernel) (by decide +kernel) rfl hl rfl (Nat.le_of_ble_eq_true rfl) ⟨Nat.le_of_ble_eq_true rfl, Nat.le_of_ble_eq_true rfl⟩ (fun _ H locs hw_42 hP hD hS => ?_)
  have hP : va_P D vwCl [(so, .inr (4, [.ref q_5, .ref q_16, .ref q_27, .null, .null, .null, .null, .null, .int 0, .int 0])), (q_5, .inr (2, [.int 0, .int 0, .int 0, .int 0])), (q_16, .inr (2, [.int 0, .int 0, .int 0, .int 0])), (q_27, .inr (2, [.int 0, .int 0, .int 0, .int 0])), (q_38, .inr (2, [.int 0, .int 0, .int 0, .int 0]))] H := hP
  have hD : va_D A [(so, .inr (4, [.ref q_5, .ref q_16, .ref q_27, .null, .null, .null, .null, .null, .int 0, .int 0])), (q_5, .inr (2, [.int 0, .int 0, .int 0, .int 0])), (q_16, .inr (2, [.int 0, .int 0, .int 0, .int 0])), (q_27, .inr (2, [.int 0, .int 0, .int 0, .int 0])), (q_38, .inr (2, [.int 0, .int 0, .int 0, .int 0]))] := hD
  refine zk_putF (ws' := [(so, .inr (4, [.ref q_5, .ref q_16, .ref q_27, .ref q_38, .null, .null, .null, .null, .int 0, .int 0])), (q_5, .inr (2, [.int 0, .int 0, .int 0, .int 0])), (q_16, .inr (2, [.int 0, .int 0, .int 0, .int 0])), (q_27, .inr (2, [.int 0, .int 0, .int 0, .int 0])), (q_38, .inr (2, [.int 0, .int 0, .int 0, .int 0]))]) X hE hin sX4_init_45 hP hD hS 0 rfl (Nat.le_of_ble_eq_true rfl) rfl rfl rfl (fun H locs hP hD hS => ?_)
  refine lv_aload_n hx hb dX4_init_48 rfl (lv_at hl 0 rfl) ?_
  refine va_new (c0 := c) (N := 4) (ci := 2) hx hb hts iwX4_init_2 tyX2 tyX2_ok hown (hts (.classLink RX4 9 RX2) (by decide +kernel)) (hts (.instantiable RX2 4) (by decide +kernel)) (hts (.initialized RX2) (by decide +kernel)) hE.1 hP hD hS hA rfl dfX2 (Nat.le_of_ble_eq_true rfl) (Nat.le_of_ble_eq_true rfl) dX4_init_49 (fun q_49 H hP hD hS => ?_)
  have hP : va_P D vwCl [(so, .inr (4, [.ref q_5, .ref q_16, .ref q_27, .ref q_38, .null, .null, .null, .null, .int 0, .int 0])), (q_5, .inr (2, [.int 0, .int 0, .int 0, .int 0])), (q_16, .inr (2, [.int 0, .int 0, .int 0, .int 0])), (q_27, .inr (2, [.int 0, .int 0, .int 0, .int 0])), (q_38, .inr (2, [.int 0, .int 0, .int 0, .int 0])), (q_49, .inr (2, [.int 0, .int 0, .int 0, .int 0]))] H := hP
  have hD : va_D A [(so, .inr (4, [.ref q_5, .ref q_16, .ref q_27, .ref q_38, .null, .null, .null, .null, .int 0, .int 0])), (q_5, .inr (2, [.int 0, .int 0, .int 0, .int 0])), (q_16, .inr (2, [.int 0, .int 0, .int 0, .int 0])), (q_27, .inr (2, [.int 0, .int 0, .int 0, .int 0])), (q_38, .inr (2, [.int 0, .int 0, .int 0, .int 0])), (q_49, .inr (2, [.int 0, .int 0, .int 0, .int 0]))] := hD
  refine lv_dup hx hb dX4_init_52 rfl ?_
  refine zk_cINv (rest := [.ref q_49, .ref so]) (wr := [(so, .inr (4, [.ref q_5, .ref q_16, .ref q_27, .ref q_38, .null, .null, .null, .null, .int 0, .int 0])), (q_5, .inr (2, [.int 0, .int 0, .int 0, .int 0])), (q_16, .inr (2, [.int 0, .int 0, .int 0, .int 0])), (q_27, .inr (2, [.int 0, .int 0, .int 0, .int 0])), (q_38, .inr (2, [.int 0, .int 0, .int 0, .int 0]))]) X hE hA (c_X2_init l D cI cZ ts q_49) ⟨va_cnB 0 hts gX4_init_X2_init_n11 rfl rfl rfl (hE.2.1 _ (List.mem_of_getElem? (i := 3) rfl)) (hts (.initialized RX2) (by decide +kernel)) hdX2_init.2 ⟨Nat.le_of_ble_eq_true rfl, Nat.le_of_ble_eq_true rfl⟩, rfl, hts (.instanceMethod yX2_init) (by decide +kernel)⟩ dX4_init_53 hP hD hS [5] [0, 1, 2, 3, 4] ⟨rfl, trivial⟩ ⟨rfl, rfl, rfl, rfl, rfl, trivial⟩ (by decide +kernel) (by decide +kernel) (by decide +kernel) rfl hl rfl (Nat.le_of_ble_eq_true rfl) ⟨Nat.le_of_ble_eq_true rfl, Nat.le_of_ble_eq_true rfl⟩ (fun _ H locs hw_53 hP hD hS => ?_)
  have hP : va_P D vwCl [(so, .inr (4, [.ref q_5, .ref q_16, .ref q_27, .ref q_38, .null, .null, .null, .null, .int 0, .int 0])), (q_5, .inr (2, [.int 0, .int 0, .int 0, .int 0])), (q_16, .inr (2, [.int 0, .int 0, .int 0, .int 0])), (q_27, .inr (2, [.int 0, .int 0, .int 0, .int 0])), (q_38, .inr (2, [.int 0, .int 0, .int 0, .int 0])), (q_49, .inr (2, [.int 0, .int 0, .int 0, .int 0]))] H := hP
  have hD : va_D A [(so, .inr (4, [.ref q_5, .ref q_16, .ref q_27, .ref q_38, .null, .null, .null, .null, .int 0, .int 0])), (q_5, .inr (2, [.int 0, .int 0, .int 0, .int 0])), (q_16, .inr (2, [.int 0, .int 0, .int 0, .int 0])), (q_27, .inr (2, [.int 0, .int 0, .int 0, .int 0])), (q_38, .inr (2, [.int 0, .int 0, .int 0, .int 0])), (q_49, .inr (2, [.int 0, .int 0, .int 0, .int 0]))] := hD
  refine zk_putF (ws' := [(so, .inr (4, [.ref q_5, .ref q_16, .ref q_27, .ref q_38, .ref q_49, .null, .null, .null, .int 0, .int 0])), (q_5, .inr (2, [.int 0, .int 0, .int 0, .int 0])), (q_16, .inr (2, [.int 0, .int 0, .int 0, .int 0])), (q_27, .inr (2, [.int 0, .int 0, .int 0, .int 0])), (q_38, .inr (2, [.int 0, .int 0, .int 0, .int 0])), (q_49, .inr (2, [.int 0, .int 0, .int 0, .int 0]))]) X hE hin sX4_init_56 hP hD hS 0 rfl (Nat.le_of_ble_eq_true rfl) rfl rfl rfl (fun H locs hP hD hS => ?_)
  refine lv_aload_n hx hb dX4_init_59 rfl (lv_at hl 0 rfl) ?_
  refine va_new (c0 := c) (N := 4) (ci := 2) hx hb hts iwX4_init_2 tyX2 tyX2_ok hown (hts (.classLink RX4 9 RX2) (by decide +kernel)) (hts (.instantiable RX2 4) (by decide +kernel)) (hts (.initialized RX2) (by decide +kernel)) hE.1 hP hD hS hA rfl dfX2 (Nat.le_of_ble_eq_true rfl) (Nat.le_of_ble_eq_true rfl) dX4_init_60 (fun q_60 H hP hD hS => ?_)
  have hP : va_P D vwCl [(so, .inr (4, [.ref q_5, .ref q_16, .ref q_27, .ref q_38, .ref q_49, .null, .null, .null, .int 0, .int 0])), (q_5, .inr (2, [.int 0, .int 0, .int 0, .int 0])), (q_16, .inr (2, [.int 0, .int 0, .int 0, .int 0])), (q_27, .inr (2, [.int 0, .int 0, .int 0, .int 0])), (q_38, .inr (2, [.int 0, .int 0, .int 0, .int 0])), (q_49, .inr (2, [.int 0, .int 0, .int 0, .int 0])), (q_60, .inr (2, [.int 0, .int 0, .int 0, .int 0]))] H := hP
  have hD : va_D A [(so, .inr (4, [.ref q_5, .ref q_16, .ref q_27, .ref q_38, .ref q_49, .null, .null, .null, .int 0, .int 0])), (q_5, .inr (2, [.int 0, .int 0, .int 0, .int 0])), (q_16, .inr (2, [.int 0, .int 0, .int 0, .int 0])), (q_27, .inr (2, [.int 0, .int 0, .int 0, .int 0])), (q_38, .inr (2, [.int 0, .int 0, .int 0, .int 0])), (q_49, .inr (2, [.int 0, .int 0, .int 0, .int 0])), (q_60, .inr (2, [.int 0, .int 0, .int 0, .int 0]))] := hD
  refine lv_dup hx hb dX4_init_63 rfl ?_
  refine zk_cINv (rest := [.ref q_60, .ref so]) (wr := [(so, .inr (4, [.ref q_5, .ref q_16, .ref q_27, .ref q_38, .ref q_49, .null, .null, .null, .int 0, .int 0])), (q_5, .inr (2, [.int 0, .int 0, .int 0, .int 0])), (q_16, .inr (2, [.int 0, .int 0, .int 0, .int 0])), (q_27, .inr (2, [.int 0, .int 0, .int 0, .int 0])), (q_38, .inr (2, [.int 0, .int 0, .int 0, .int 0])), (q_49, .inr (2, [.int 0, .int 0, .int 0, .int 0]))]) X hE hA (c_X2_init l D cI cZ ts q_60) ⟨va_cnB 0 hts gX4_init_X2_init_n11 rfl rfl rfl (hE.2.1 _ (List.mem_of_getElem? (i := 3) rfl)) (hts (.initialized RX2) (by decide +kernel)) hdX2_init.2 ⟨Nat.le_of_ble_eq_true rfl, Nat.le_of_ble_eq_true rfl⟩, rfl, hts (.instanceMethod yX2_init) (by decide +kernel)⟩ dX4_init_64 hP hD hS [6] [0, 1, 2, 3, 4, 5] ⟨rfl, trivial⟩ ⟨rfl, rfl, rfl, rfl, rfl, rfl, trivial⟩ (by decide +kernel) (by decide +kernel) (by decide +kernel) rfl hl rfl (Nat.le_of_ble_eq_true rfl) ⟨Nat.le_of_ble_eq_true rfl, Nat.le_of_ble_eq_true rfl⟩ (fun _ H locs hw_64 hP hD hS => ?_)
  have hP : va_P D vwCl [(so, .inr (4, [.ref q_5, .ref q_16, .ref q_27, .ref q_38, .ref q_49, .null, .null, .null, .int 0, .int 0])), (q_5, .inr (2, [.int 0, .int 0, .int 0, .int 0])), (q_16, .inr (2, [.int 0, .int 0, .int 0, .int 0])), (q_27, .inr (2, [.int 0, .int 0, .int 0, .int 0])), (q_38, .inr (2, [.int 0, .int 0, .int 0, .int 0])), (q_49, .inr (2, [.int 0, .int 0, .int 0, .int 0])), (q_60, .inr (2, [.int 0, .int 0, .int 0, .int 0]))] H := hP
  have hD : va_D A [(so, .inr (4, [.ref q_5, .ref q_16, .ref q_27, .ref q_38, .ref q_49, .null, .null, .null, .int 0, .int 0])), (q_5, .inr (2, [.int 0, .int 0, .int 0, .int 0])), (q_16, .inr (2, [.int 0, .int 0, .int 0, .int 0])), (q_27, .inr (2, [.int 0, .int 0, .int 0, .int 0])), (q_38, .inr (2, [.int 0, .int 0, .int 0, .int 0])), (q_49, .inr (2, [.int 0, .int 0, .int 0, .int 0])), (q_60, .inr (2, [.int 0, .int 0, .int 0, .int 0]))] := hD
  refine zk_putF (ws' := [(so, .inr (4, [.ref q_5, .ref q_16, .ref q_27, .ref q_38, .ref q_49, .ref q_60, .null, .null, .int 0, .int 0])), (q_5, .inr (2, [.int 0, .int 0, .int 0, .int 0])), (q_16, .inr (2, [.int 0, .int 0, .int 0, .int 0])), (q_27, .inr (2, [.int 0, .int 0, .int 0, .int 0])), (q_38, .inr (2, [.int 0, .int 0, .int 0, .int 0])), (q_49, .inr (2, [.int 0, .int 0, .int 0, .int 0])), (q_60, .inr (2, [.int 0, .int 0, .int 0, .int 0]))]) X hE hin sX4_init_67 hP hD hS 0 rfl (Nat.le_of_ble_eq_true rfl) rfl rfl rfl (fun H locs hP hD hS => ?_)
  refine lv_aload_n hx hb dX4_init_70 rfl (lv_at hl 0 rfl) ?_
  refine va_new (c0 := c) (N := 6) (ci := 3) hx hb hts iwX4_init_3 tyX3 tyX3_ok hown (hts (.classLink RX4 33 RX3) (by decide +kernel)) (hts (.instantiable RX3 6) (by decide +kernel)) (hts (.initialized RX3) (by decide +kernel)) hE.1 hP hD hS hA rfl dfX3 (Nat.le_of_ble_eq_true rfl) (Nat.le_of_ble_eq_true rfl) dX4_init_71 (fun q_71 H hP hD hS => ?_)
  have hP : va_P D vwCl [(so, .inr (4, [.ref q_5, .ref q_16, .ref q_27, .ref q_38, .ref q_49, .ref q_60, .null, .null, .int 0, .int 0])), (q_5, .inr (2, [.int 0, .int 0, .int 0, .int 0])), (q_16, .inr (2, [.int 0, .int 0, .int 0, .int 0])), (q_27, .inr (2, [.int 0, .int 0, .int 0, .int 0])), (q_38, .inr (2, [.int 0, .int 0, .int 0, .int 0])), (q_49, .inr (2, [.int 0, .int 0, .int 0, .int 0])), (q_60, .inr (2, [.int 0, .int 0, .int 0, .int 0])), (q_71, .inr (3, [.int 0, .null, .null, .null, .null, .int 0]))] H := hP
  have hD : va_D A [(so, .inr (4, [.ref q_5, .ref q_16, .ref q_27, .ref q_38, .ref q_49, .ref q_60, .null, .null, .int 0, .int 0])), (q_5, .inr (2, [.int 0, .int 0, .int 0, .int 0])), (q_16, .inr (2, [.int 0, .int 0, .int 0, .int 0])), (q_27, .inr (2, [.int 0, .int 0, .int 0, .int 0])), (q_38, .inr (2, [.int 0, .int 0, .int 0, .int 0])), (q_49, .inr (2, [.int 0, .int 0, .int 0, .int 0])), (q_60, .inr (2, [.int 0, .int 0, .int 0, .int 0])), (q_71, .inr (3, [.int 0, .null, .null, .null, .null, .int 0]))] := hD
  refine lv_dup hx hb dX4_init_74 rfl ?_
  refine lv_bipush (v := 40) hx hb dX4_init_75 (by decide) ?_
  refine zk_cIv (rest := [.ref q_71, .ref so]) (wr := [(so, .inr (4, [.ref q_5, .ref q_16, .ref q_27, .ref q_38, .ref q_49, .ref q_60, .null, .null, .int 0, .int 0])), (q_5, .inr (2, [.int 0, .int 0, .int 0, .int 0])), (q_16, .inr (2, [.int 0, .int 0, .int 0, .int 0])), (q_27, .inr (2, [.int 0, .int 0, .int 0, .int 0])), (q_38, .inr (2, [.int 0, .int 0, .int 0, .int 0])), (q_49, .inr (2, [.int 0, .int 0, .int 0, .int 0])), (q_60, .inr (2, [.int 0, .int 0, .int 0, .int 0]))]) X hE hA (c_X3_init_40 l D cI cZ ts q_71) (cwI 1 hts gX4_init_X3_init rfl rfl rfl (hts (.initialized RX3) (by decide +kernel)) (hts (.methodLink RX4 35 yX3_init) (by decide +kernel)) (hts (.instanceMethod yX3_init) (by decide +kernel)) rfl hdX3_init.2 ⟨Nat.le_of_ble_eq_true rfl, Nat.le_of_ble_eq_true rfl⟩) dX4_init_77 hP hD hS [7] [0, 1, 2, 3, 4, 5, 6] ⟨rfl, trivial⟩ ⟨rfl, rfl, rfl, rfl, rfl, rfl, rfl, trivial⟩ (by decide +kernel) (by decide +kernel) (by decide +kernel) rfl hl rfl (Nat.le_of_ble_eq_true rfl) ⟨Nat.le_of_ble_eq_true rfl, Nat.le_of_ble_eq_true rfl⟩ (fun u_77 H locs hw_77 hP hD hS => ?_)
  obtain ⟨a0_1, a1_2, a2_3, a3_4⟩ := u_77
  have hP : va_P D vwCl [(so, .inr (4, [.ref q_5, .ref q_16, .ref q_27, .ref q_38, .ref q_49, .ref q_60, .null, .null, .int 0, .int 0])), (q_5, .inr (2, [.int 0, .int 0, .int 0, .int 0])), (q_16, .inr (2, [.int 0, .int 0, .int 0, .int 0])), (q_27, .inr (2, [.int 0, .int 0, .int 0, .int 0])), (q_38, .inr (2, [.int 0, .int 0, .int 0, .int 0])), (q_49, .inr (2, [.int 0, .int 0, .int 0, .int 0])), (q_60, .inr (2, [.int 0, .int 0, .int 0, .int 0])), (q_71, .inr (3, [.int (nI 40), .ref a0_1, .ref a1_2, .ref a2_3, .ref a3_4, .int (nI 0)])), (a0_1, .inl (cI, 40, .inl zz0)), (a1_2, .inl (cI, 40, .inl zz0)), (a2_3, .inl (cI, 40, .inl zz0)), (a3_4, .inl (cI, 40, .inl zz0))] H := hP
  have hD : va_D A [(so, .inr (4, [.ref q_5, .ref q_16, .ref q_27, .ref q_38, .ref q_49, .ref q_60, .null, .null, .int 0, .int 0])), (q_5, .inr (2, [.int 0, .int 0, .int 0, .int 0])), (q_16, .inr (2, [.int 0, .int 0, .int 0, .int 0])), (q_27, .inr (2, [.int 0, .int 0, .int 0, .int 0])), (q_38, .inr (2, [.int 0, .int 0, .int 0, .int 0])), (q_49, .inr (2, [.int 0, .int 0, .int 0, .int 0])), (q_60, .inr (2, [.int 0, .int 0, .int 0, .int 0])), (q_71, .inr (3, [.int (nI 40), .ref a0_1, .ref a1_2, .ref a2_3, .ref a3_4, .int (nI 0)])), (a0_1, .inl (cI, 40, .inl zz0)), (a1_2, .inl (cI, 40, .inl zz0)), (a2_3, .inl (cI, 40, .inl zz0)), (a3_4, .inl (cI, 40, .inl zz0))] := hD
  refine zk_putF (ws' := [(so, .inr (4, [.ref q_5, .ref q_16, .ref q_27, .ref q_38, .ref q_49, .ref q_60, .ref q_71, .null, .int 0, .int 0])), (q_5, .inr (2, [.int 0, .int 0, .int 0, .int 0])), (q_16, .inr (2, [.int 0, .int 0, .int 0, .int 0])), (q_27, .inr (2, [.int 0, .int 0, .int 0, .int 0])), (q_38, .inr (2, [.int 0, .int 0, .int 0, .int 0])), (q_49, .inr (2, [.int 0, .int 0, .int 0, .int 0])), (q_60, .inr (2, [.int 0, .int 0, .int 0, .int 0])), (q_71, .inr (3, [.int (nI 40), .ref a0_1, .ref a1_2, .ref a2_3, .ref a3_4, .int (nI 0)])), (a0_1, .inl (cI, 40, .inl zz0)), (a1_2, .inl (cI, 40, .inl zz0)), (a2_3, .inl (cI, 40, .inl zz0)), (a3_4, .inl (cI, 40, .inl zz0))]) X hE hin sX4_init_80 hP hD hS 0 rfl (Nat.le_of_ble_eq_true rfl) rfl rfl rfl (fun H locs hP hD hS => ?_)
  refine lv_aload_n hx hb dX4_init_83 rfl (lv_at hl 0 rfl) ?_
  refine lv_bipush (v := 40) hx hb dX4_init_84 (by decide) ?_
  refine zk_newI (N := 40) hx hb (hts (.arrayClass .int) (by decide +kernel)) hE hP hD hS hA (by decide) (by decide) (Nat.le_of_ble_eq_true rfl) (Nat.le_of_ble_eq_true rfl) (Nat.le_of_ble_eq_true rfl) dX4_init_86 (fun q_86 H hP hD hS => ?_)
  have hP : va_P D vwCl [(so, .inr (4, [.ref q_5, .ref q_16, .ref q_27, .ref q_38, .ref q_49, .ref q_60, .ref q_71, .null, .int 0, .int 0])), (q_5, .inr (2, [.int 0, .int 0, .int 0, .int 0])), (q_16, .inr (2, [.int 0, .int 0, .int 0, .int 0])), (q_27, .inr (2, [.int 0, .int 0, .int 0, .int 0])), (q_38, .inr (2, [.int 0, .int 0, .int 0, .int 0])), (q_49, .inr (2, [.int 0, .int 0, .int 0, .int 0])), (q_60, .inr (2, [.int 0, .int 0, .int 0, .int 0])), (q_71, .inr (3, [.int (nI 40), .ref a0_1, .ref a1_2, .ref a2_3, .ref a3_4, .int (nI 0)])), (a0_1, .inl (cI, 40, .inl zz0)), (a1_2, .inl (cI, 40, .inl zz0)), (a2_3, .inl (cI, 40, .inl zz0)), (a3_4, .inl (cI, 40, .inl zz0)), (q_86, .inl (cI, 40, .inl zz0))] H := hP
  have hD : va_D A [(so, .inr (4, [.ref q_5, .ref q_16, .ref q_27, .ref q_38, .ref q_49, .ref q_60, .ref q_71, .null, .int 0, .int 0])), (q_5, .inr (2, [.int 0, .int 0, .int 0, .int 0])), (q_16, .inr (2, [.int 0, .int 0, .int 0, .int 0])), (q_27, .inr (2, [.int 0, .int 0, .int 0, .int 0])), (q_38, .inr (2, [.int 0, .int 0, .int 0, .int 0])), (q_49, .inr (2, [.int 0, .int 0, .int 0, .int 0])), (q_60, .inr (2, [.int 0, .int 0, .int 0, .int 0])), (q_71, .inr (3, [.int (nI 40), .ref a0_1, .ref a1_2, .ref a2_3, .ref a3_4, .int (nI 0)])), (a0_1, .inl (cI, 40, .inl zz0)), (a1_2, .inl (cI, 40, .inl zz0)), (a2_3, .inl (cI, 40, .inl zz0)), (a3_4, .inl (cI, 40, .inl zz0)), (q_86, .inl (cI, 40, .inl zz0))] := hD
  refine zk_putF (ws' := [(so, .inr (4, [.ref q_5, .ref q_16, .ref q_27, .ref q_38, .ref q_49, .ref q_60, .ref q_71, .ref q_86, .int 0, .int 0])), (q_5, .inr (2, [.int 0, .int 0, .int 0, .int 0])), (q_16, .inr (2, [.int 0, .int 0, .int 0, .int 0])), (q_27, .inr (2, [.int 0, .int 0, .int 0, .int 0])), (q_38, .inr (2, [.int 0, .int 0, .int 0, .int 0])), (q_49, .inr (2, [.int 0, .int 0, .int 0, .int 0])), (q_60, .inr (2, [.int 0, .int 0, .int 0, .int 0])), (q_71, .inr (3, [.int (nI 40), .ref a0_1, .ref a1_2, .ref a2_3, .ref a3_4, .int (nI 0)])), (a0_1, .inl (cI, 40, .inl zz0)), (a1_2, .inl (cI, 40, .inl zz0)), (a2_3, .inl (cI, 40, .inl zz0)), (a3_4, .inl (cI, 40, .inl zz0)), (q_86, .inl (cI, 40, .inl zz0))]) X hE hin sX4_init_88 hP hD hS 0 rfl (Nat.le_of_ble_eq_true rfl) rfl rfl rfl (fun H locs hP hD hS => ?_)
  refine lv_aload_n hx hb dX4_init_91 rfl (lv_at hl 0 rfl) ?_
  refine lv_iconst (v := 0) hx hb dX4_init_92 (by decide) ?_
  refine zk_put (ws' := [(so, .inr (4, [.ref q_5, .ref q_16, .ref q_27, .ref q_38, .ref q_49, .ref q_60, .ref q_71, .ref q_86, .int 0, .int 0])), (q_5, .inr (2, [.int 0, .int 0, .int 0, .int 0])), (q_16, .inr (2, [.int 0, .int 0, .int 0, .int 0])), (q_27, .inr (2, [.int 0, .int 0, .int 0, .int 0])), (q_38, .inr (2, [.int 0, .int 0, .int 0, .int 0])), (q_49, .inr (2, [.int 0, .int 0, .int 0, .int 0])), (q_60, .inr (2, [.int 0, .int 0, .int 0, .int 0])), (q_71, .inr (3, [.int (nI 40), .ref a0_1, .ref a1_2, .ref a2_3, .ref a3_4, .int (nI 0)])), (a0_1, .inl (cI, 40, .inl zz0)), (a1_2, .inl (cI, 40, .inl zz0)), (a2_3, .inl (cI, 40, .inl zz0)), (a3_4, .inl (cI, 40, .inl zz0)), (q_86, .inl (cI, 40, .inl zz0))]) X hE sX4_init_93 hP hD hS 0 rfl (Nat.le_of_ble_eq_true rfl) rfl (fun H locs hP hD hS => ?_)
  refine lv_aload_n hx hb dX4_init_96 rfl (lv_at hl 0 rfl) ?_
  refine lv_iconst (v := 0) hx hb dX4_init_97 (by decide) ?_
  refine zk_put (ws' := [(so, .inr (4, [.ref q_5, .ref q_16, .ref q_27, .ref q_38, .ref q_49, .ref q_60, .ref q_71, .ref q_86, .int 0, .int 0])), (q_5, .inr (2, [.int 0, .int 0, .int 0, .int 0])), (q_16, .inr (2, [.int 0, .int 0, .int 0, .int 0])), (q_27, .inr (2, [.int 0, .int 0, .int 0, .int 0])), (q_38, .inr (2, [.int 0, .int 0, .int 0, .int 0])), (q_49, .inr (2, [.int 0, .int 0, .int 0, .int 0])), (q_60, .inr (2, [.int 0, .int 0, .int 0, .int 0])), (q_71, .inr (3, [.int (nI 40), .ref a0_1, .ref a1_2, .ref a2_3, .ref a3_4, .int (nI 0)])), (a0_1, .inl (cI, 40, .inl zz0)), (a1_2, .inl (cI, 40, .inl zz0)), (a2_3, .inl (cI, 40, .inl zz0)), (a3_4, .inl (cI, 40, .inl zz0)), (q_86, .inl (cI, 40, .inl zz0))]) X hE sX4_init_98 hP hD hS 0 rfl (Nat.le_of_ble_eq_true rfl) rfl (fun H locs hP hD hS => ?_)
  have hq := hret  (q_5, q_16, q_27, q_38, q_49, q_60, q_71, q_86, a0_1, a1_2, a2_3, a3_4) H locs 101 ls
  dsimp only at hq
  exact hq trivial hP hD hS dX4_init_101
set_option maxHeartbeats 4000000 in
set_option maxRecDepth 100000 in
theorem c_X0_init (l : Launch) (D : va_G) (cI cZ : ClassId) (ts : Nat → Nat) (co : Nat)  : zk_Mv l yX0_init wsX0_init ({ frames := 1, cells := 0, slots := 0, locals := 12 } : Room) D cI cZ ts [.ref co] [(co, .inr (0, [.int 0, .int 0, .int 0, .int 0, .int 0]))] (fun (_ : Unit) => True) (fun (_ : Unit) => [(co, .inr (0, [.int 0, .int 0, .int 0, .int 0, .int 0]))]) 0 0 := by
  refine zk_Mv.of (cc := cX0_init) (maxL := 1) RX0 (by decide) rfl (Nat.le_of_ble_eq_true rfl) rfl ?_
  intro p e s m below meth c A Q H locs ls X hE hA hin hP hD hS hret hl
  obtain ⟨hx, hb, hml, hown, hts⟩ := id X
  have hl : lv_has ls 1 [(0, .ref co)] := hl
  refine lv_aload_n hx hb dX0_init_0 rfl (lv_at hl 0 rfl) ?_
  refine W.objInit hx hb hown (hts (.methodLink RX0 3 objectInit) (by decide +kernel)) (hts (.instanceMethod objectInit) (by decide +kernel)) (hts _ (List.mem_of_getElem? (i := 3) rfl)) rfl (by rw [hml]; exact hl.1) rfl dX0_init_1 (Nat.le_of_ble_eq_true rfl) (Nat.le_of_ble_eq_true rfl) ?_
  refine W.eq (g2 := F0 m 4 ls []) rfl ?_
  refine lv_aload_n hx hb dX0_init_4 rfl (lv_at hl 0 rfl) ?_
  refine lv_iconst (v := 0) hx hb dX0_init_5 (by decide) ?_
  refine zk_put (ws' := [(co, .inr (0, [.int 0, .int 0, .int 0, .int 0, .int 0]))]) X hE sX0_init_6 hP hD hS 0 rfl (Nat.le_of_ble_eq_true rfl) rfl (fun H locs hP hD hS => ?_)
  refine lv_aload_n hx hb dX0_init_9 rfl (lv_at hl 0 rfl) ?_
  refine lv_iconst (v := 0) hx hb dX0_init_10 (by decide) ?_
  refine zk_put (ws' := [(co, .inr (0, [.int 0, .int 0, .int 0, .int 0, .int 0]))]) X hE sX0_init_11 hP hD hS 0 rfl (Nat.le_of_ble_eq_true rfl) rfl (fun H locs hP hD hS => ?_)
  refine lv_aload_n hx hb dX0_init_14 rfl (lv_at hl 0 rfl) ?_
  refine lv_iconst (v := 0) hx hb dX0_init_15 (by decide) ?_
  refine zk_put (ws' := [(co, .inr (0, [.int 0, .int 0, .int 0, .int 0, .int 0]))]) X hE sX0_init_16 hP hD hS 0 rfl (Nat.le_of_ble_eq_true rfl) rfl (fun H locs hP hD hS => ?_)
  refine lv_aload_n hx hb dX0_init_19 rfl (lv_at hl 0 rfl) ?_
  refine lv_iconst (v := 0) hx hb dX0_init_20 (by decide) ?_
  refine zk_put (ws' := [(co, .inr (0, [.int 0, .int 0, .int 0, .int 0, .int 0]))]) X hE sX0_init_21 hP hD hS 0 rfl (Nat.le_of_ble_eq_true rfl) rfl (fun H locs hP hD hS => ?_)
  refine lv_aload_n hx hb dX0_init_24 rfl (lv_at hl 0 rfl) ?_
  refine lv_iconst (v := 0) hx hb dX0_init_25 (by decide) ?_
  refine zk_put (ws' := [(co, .inr (0, [.int 0, .int 0, .int 0, .int 0, .int 0]))]) X hE sX0_init_26 hP hD hS 0 rfl (Nat.le_of_ble_eq_true rfl) rfl (fun H locs hP hD hS => ?_)
  exact hret  () H locs 29 ls trivial hP hD hS dX0_init_29
set_option maxHeartbeats 4000000 in
set_option maxRecDepth 100000 in
theorem c_X1_init (l : Launch) (D : va_G) (cI cZ : ClassId) (ts : Nat → Nat) (fa : Nat)  : zk_Mv l yX1_init wsX1_init ({ frames := 2, cells := 13, slots := 2424, locals := 35 } : Room) D cI cZ ts [.ref fa] [(fa, .inr (1, [.null, .null, .null, .null, .null, .int 0, .int 0]))] (fun (u : Nat × Nat × Nat × Nat × Nat × Nat × Nat × Nat × Nat × Nat × Nat × Nat × Nat) => True) (fun (u : Nat × Nat × Nat × Nat × Nat × Nat × Nat × Nat × Nat × Nat × Nat × Nat × Nat) => [(fa, .inr (1, [.ref u.1, .ref u.2.1, .ref u.2.2.1, .ref u.2.2.2.1, .ref u.2.2.2.2.1, .int 0, .int 0])), (u.1, .inr (2, [.int 0, .int 0, .int 0, .int 0])), (u.2.1, .inr (2, [.int 0, .int 0, .int 0, .int 0])), (u.2.2.1, .inr (2, [.int 0, .int 0, .int 0, .int 0])), (u.2.2.2.1, .inr (3, [.int (nI 300), .ref u.2.2.2.2.2.1, .ref u.2.2.2.2.2.2.1, .ref u.2.2.2.2.2.2.2.1, .ref u.2.2.2.2.2.2.2.2.1, .int (nI 0)])), (u.2.2.2.2.2.1, .inl (cI, 300, .inl zz0)), (u.2.2.2.2.2.2.1, .inl (cI, 300, .inl zz0)), (u.2.2.2.2.2.2.2.1, .inl (cI, 300, .inl zz0)), (u.2.2.2.2.2.2.2.2.1, .inl (cI, 300, .inl zz0)), (u.2.2.2.2.1, .inr (3, [.int (nI 300), .ref u.2.2.2.2.2.2.2.2.2.1, .ref u.2.2.2.2.2.2.2.2.2.2.1, .ref u.2.2.2.2.2.2.2.2.2.2.2.1, .ref u.2.2.2.2.2.2.2.2.2.2.2.2, .int (nI 0)])), (u.2.2.2.2.2.2.2.2.2.1, .inl (cI, 300, .inl zz0)), (u.2.2.2.2.2.2.2.2.2.2.1, .inl (cI, 300, .inl zz0)), (u.2.2.2.2.2.2.2.2.2.2.2.1, .inl (cI, 300, .inl zz0)), (u.2.2.2.2.2.2.2.2.2.2.2.2, .inl (cI, 300, .inl zz0))]) 13 2424 := by
  refine zk_Mv.of (cc := cX1_init) (maxL := 1) RX1 (by decide) rfl (Nat.le_of_ble_eq_true rfl) rfl ?_
  intro p e s m below meth c A Q H locs ls X hE hA hin hP hD hS hret hl
  obtain ⟨hx, hb, hml, hown, hts⟩ := id X
  have hl : lv_has ls 1 [(0, .ref fa)] := hl
  refine lv_aload_n hx hb dX1_init_0 rfl (lv_at hl 0 rfl) ?_
  refine W.objInit hx hb hown (hts (.methodLink RX1 3 objectInit) (by decide +kernel)) (hts (.instanceMethod objectInit) (by decide +kernel)) (hts _ (List.mem_of_getElem? (i := 3) rfl)) rfl (by rw [hml]; exact hl.1) rfl dX1_init_1 (Nat.le_of_ble_eq_true rfl) (Nat.le_of_ble_eq_true rfl) ?_
  refine W.eq (g2 := F0 m 4 ls []) rfl ?_
  refine lv_aload_n hx hb dX1_init_4 rfl (lv_at hl 0 rfl) ?_
  refine va_new (c0 := c) (N := 4) (ci := 2) hx hb hts iwX1_init_2 tyX2 tyX2_ok hown (hts (.classLink RX1 9 RX2) (by decide +kernel)) (hts (.instantiable RX2 4) (by decide +kernel)) (hts (.initialized RX2) (by decide +kernel)) hE.1 hP hD hS hA rfl dfX2 (Nat.le_of_ble_eq_true rfl) (Nat.le_of_ble_eq_true rfl) dX1_init_5 (fun q_5 H hP hD hS => ?_)
  have hP : va_P D vwCl [(fa, .inr (1, [.null, .null, .null, .null, .null, .int 0, .int 0])), (q_5, .inr (2, [.int 0, .int 0, .int 0, .int 0]))] H := hP
  have hD : va_D A [(fa, .inr (1, [.null, .null, .null, .null, .null, .int 0, .int 0])), (q_5, .inr (2, [.int 0, .int 0, .int 0, .int 0]))] := hD
  refine lv_dup hx hb dX1_init_8 rfl ?_
  refine zk_cINv (rest := [.ref q_5, .ref fa]) (wr := [(fa, .inr (1, [.null, .null, .null, .null, .null, .int 0, .int 0]))]) X hE hA (c_X2_init l D cI cZ ts q_5) ⟨va_cnB 0 hts gX1_init_X2_init_n11 rfl rfl rfl (hE.2.1 _ (List.mem_of_getElem? (i := 6) rfl)) (hts (.initialized RX2) (by decide +kernel)) hdX2_init.2 ⟨Nat.le_of_ble_eq_true rfl, Nat.le_of_ble_eq_true rfl⟩, rfl, hts (.instanceMethod yX2_init) (by decide +kernel)⟩ dX1_init_9 hP hD hS [1] [0] ⟨rfl, trivial⟩ ⟨rfl, trivial⟩ (by decide +kernel) (by decide +kernel) (by decide +kernel) rfl hl rfl (Nat.le_of_ble_eq_true rfl) ⟨Nat.le_of_ble_eq_true rfl, Nat.le_of_ble_eq_true rfl⟩ (fun _ H locs hw_9 hP hD hS => ?_)
  have hP : va_P D vwCl [(fa, .inr (1, [.null, .null, .null, .null, .null, .int 0, .int 0])), (q_5, .inr (2, [.int 0, .int 0, .int 0, .int 0]))] H := hP
  have hD : va_D A [(fa, .inr (1, [.null, .null, .null, .null, .null, .int 0, .int 0])), (q_5, .inr (2, [.int 0, .int 0, .int 0, .int 0]))] := hD
  refine zk_putF (ws' := [(fa, .inr (1, [.ref q_5, .null, .null, .null, .null, .int 0, .int 0])), (q_5, .inr (2, [.int 0, .int 0, .int 0, .int 0]))]) X hE hin sX1_init_12 hP hD hS 0 rfl (Nat.le_of_ble_eq_true rfl) rfl rfl rfl (fun H locs hP hD hS => ?_)
  refine lv_aload_n hx hb dX1_init_15 rfl (lv_at hl 0 rfl) ?_
  refine va_new (c0 := c) (N := 4) (ci := 2) hx hb hts iwX1_init_2 tyX2 tyX2_ok hown (hts (.classLink RX1 9 RX2) (by decide +kernel)) (hts (.instantiable RX2 4) (by decide +kernel)) (hts (.initialized RX2) (by decide +kernel)) hE.1 hP hD hS hA rfl dfX2 (Nat.le_of_ble_eq_true rfl) (Nat.le_of_ble_eq_true rfl) dX1_init_16 (fun q_16 H hP hD hS => ?_)
  have hP : va_P D vwCl [(fa, .inr (1, [.ref q_5, .null, .null, .null, .null, .int 0, .int 0])), (q_5, .inr (2, [.int 0, .int 0, .int 0, .int 0])), (q_16, .inr (2, [.int 0, .int 0, .int 0, .int 0]))] H := hP
  have hD : va_D A [(fa, .inr (1, [.ref q_5, .null, .null, .null, .null, .int 0, .int 0])), (q_5, .inr (2, [.int 0, .int 0, .int 0, .int 0])), (q_16, .inr (2, [.int 0, .int 0, .int 0, .int 0]))] := hD
  refine lv_dup hx hb dX1_init_19 rfl ?_
  refine zk_cINv (rest := [.ref q_16, .ref fa]) (wr := [(fa, .inr (1, [.ref q_5, .null, .null, .null, .null, .int 0, .int 0])), (q_5, .inr (2, [.int 0, .int 0, .int 0, .int 0]))]) X hE hA (c_X2_init l D cI cZ ts q_16) ⟨va_cnB 0 hts gX1_init_X2_init_n11 rfl rfl rfl (hE.2.1 _ (List.mem_of_getElem? (i := 6) rfl)) (hts (.initialized RX2) (by decide +kernel)) hdX2_init.2 ⟨Nat.le_of_ble_eq_true rfl, Nat.le_of_ble_eq_true rfl⟩, rfl, hts (.instanceMethod yX2_init) (by decide +kernel)⟩ dX1_init_20 hP hD hS [2] [0, 1] ⟨rfl, trivial⟩ ⟨rfl, rfl, trivial⟩ (by decide +kernel) (by decide +kernel) (by decide +kernel) rfl hl rfl (Nat.le_of_ble_eq_true rfl) ⟨Nat.le_of_ble_eq_true rfl, Nat.le_of_ble_eq_true rfl⟩ (fun _ H locs hw_20 hP hD hS => ?_)
  have hP : va_P D vwCl [(fa, .inr (1, [.ref q_5, .null, .null, .null, .null, .int 0, .int 0])), (q_5, .inr (2, [.int 0, .int 0, .int 0, .int 0])), (q_16, .inr (2, [.int 0, .int 0, .int 0, .int 0]))] H := hP
  have hD : va_D A [(fa, .inr (1, [.ref q_5, .null, .null, .null, .null, .int 0, .int 0])), (q_5, .inr (2, [.int 0, .int 0, .int 0, .int 0])), (q_16, .inr (2, [.int 0, .int 0, .int 0, .int 0]))] := hD
  refine zk_putF (ws' := [(fa, .inr (1, [.ref q_5, .ref q_16, .null, .null, .null, .int 0, .int 0])), (q_5, .inr (2, [.int 0, .int 0, .int 0, .int 0])), (q_16, .inr (2, [.int 0, .int 0, .int 0, .int 0]))]) X hE hin sX1_init_23 hP hD hS 0 rfl (Nat.le_of_ble_eq_true rfl) rfl rfl rfl (fun H locs hP hD hS => ?_)
  refine lv_aload_n hx hb dX1_init_26 rfl (lv_at hl 0 rfl) ?_
  refine va_new (c0 := c) (N := 4) (ci := 2) hx hb hts iwX1_init_2 tyX2 tyX2_ok hown (hts (.classLink RX1 9 RX2) (by decide +kernel)) (hts (.instantiable RX2 4) (by decide +kernel)) (hts (.initialized RX2) (by decide +kernel)) hE.1 hP hD hS hA rfl dfX2 (Nat.le_of_ble_eq_true rfl) (Nat.le_of_ble_eq_true rfl) dX1_init_27 (fun q_27 H hP hD hS => ?_)
  have hP : va_P D vwCl [(fa, .inr (1, [.ref q_5, .ref q_16, .null, .null, .null, .int 0, .int 0])), (q_5, .inr (2, [.int 0, .int 0, .int 0, .int 0])), (q_16, .inr (2, [.int 0, .int 0, .int 0, .int 0])), (q_27, .inr (2, [.int 0, .int 0, .int 0, .int 0]))] H := hP
  have hD : va_D A [(fa, .inr (1, [.ref q_5, .ref q_16, .null, .null, .null, .int 0, .int 0])), (q_5, .inr (2, [.int 0, .int 0, .int 0, .int 0])), (q_16, .inr (2, [.int 0, .int 0, .int 0, .int 0])), (q_27, .inr (2, [.int 0, .int 0, .int 0, .int 0]))] := hD
  refine lv_dup hx hb dX1_init_30 rfl ?_
  refine zk_cINv (rest := [.ref q_27, .ref fa]) (wr := [(fa, .inr (1, [.ref q_5, .ref q_16, .null, .null, .null, .int 0, .int 0])), (q_5, .inr (2, [.int 0, .int 0, .int 0, .int 0])), (q_16, .inr (2, [.int 0, .int 0, .int 0, .int 0]))]) X hE hA (c_X2_init l D cI cZ ts q_27) ⟨va_cnB 0 hts gX1_init_X2_init_n11 rfl rfl rfl (hE.2.1 _ (List.mem_of_getElem? (i := 6) rfl)) (hts (.initialized RX2) (by decide +kernel)) hdX2_init.2 ⟨Nat.le_of_ble_eq_true rfl, Nat.le_of_ble_eq_true rfl⟩, rfl, hts (.instanceMethod yX2_init) (by decide +kernel)⟩ dX1_init_31 hP hD hS [3] [0, 1, 2] ⟨rfl, trivial⟩ ⟨rfl, rfl, rfl, trivial⟩ (by decide +kernel) (by decide +kernel) (by decide +kernel) rfl hl rfl (Nat.le_of_ble_eq_true rfl) ⟨Nat.le_of_ble_eq_true rfl, Nat.le_of_ble_eq_true rfl⟩ (fun _ H locs hw_31 hP hD hS => ?_)
  have hP : va_P D vwCl [(fa, .inr (1, [.ref q_5, .ref q_16, .null, .null, .null, .int 0, .int 0])), (q_5, .inr (2, [.int 0, .int 0, .int 0, .int 0])), (q_16, .inr (2, [.int 0, .int 0, .int 0, .int 0])), (q_27, .inr (2, [.int 0, .int 0, .int 0, .int 0]))] H := hP
  have hD : va_D A [(fa, .inr (1, [.ref q_5, .ref q_16, .null, .null, .null, .int 0, .int 0])), (q_5, .inr (2, [.int 0, .int 0, .int 0, .int 0])), (q_16, .inr (2, [.int 0, .int 0, .int 0, .int 0])), (q_27, .inr (2, [.int 0, .int 0, .int 0, .int 0]))] := hD
  refine zk_putF (ws' := [(fa, .inr (1, [.ref q_5, .ref q_16, .ref q_27, .null, .null, .int 0, .int 0])), (q_5, .inr (2, [.int 0, .int 0, .int 0, .int 0])), (q_16, .inr (2, [.int 0, .int 0, .int 0, .int 0])), (q_27, .inr (2, [.int 0, .int 0, .int 0, .int 0]))]) X hE hin sX1_init_34 hP hD hS 0 rfl (Nat.le_of_ble_eq_true rfl) rfl rfl rfl (fun H locs hP hD hS => ?_)
  refine lv_aload_n hx hb dX1_init_37 rfl (lv_at hl 0 rfl) ?_
  refine va_new (c0 := c) (N := 6) (ci := 3) hx hb hts iwX1_init_3 tyX3 tyX3_ok hown (hts (.classLink RX1 24 RX3) (by decide +kernel)) (hts (.instantiable RX3 6) (by decide +kernel)) (hts (.initialized RX3) (by decide +kernel)) hE.1 hP hD hS hA rfl dfX3 (Nat.le_of_ble_eq_true rfl) (Nat.le_of_ble_eq_true rfl) dX1_init_38 (fun q_38 H hP hD hS => ?_)
  have hP : va_P D vwCl [(fa, .inr (1, [.ref q_5, .ref q_16, .ref q_27, .null, .null, .int 0, .int 0])), (q_5, .inr (2, [.int 0, .int 0, .int 0, .int 0])), (q_16, .inr (2, [.int 0, .int 0, .int 0, .int 0])), (q_27, .inr (2, [.int 0, .int 0, .int 0, .int 0])), (q_38, .inr (3, [.int 0, .null, .null, .null, .null, .int 0]))] H := hP
  have hD : va_D A [(fa, .inr (1, [.ref q_5, .ref q_16, .ref q_27, .null, .null, .int 0, .int 0])), (q_5, .inr (2, [.int 0, .int 0, .int 0, .int 0])), (q_16, .inr (2, [.int 0, .int 0, .int 0, .int 0])), (q_27, .inr (2, [.int 0, .int 0, .int 0, .int 0])), (q_38, .inr (3, [.int 0, .null, .null, .null, .null, .int 0]))] := hD
  refine lv_dup hx hb dX1_init_41 rfl ?_
  refine lv_sipush (v := 300) hx hb dX1_init_42 (by decide) ?_
  refine zk_cIv (rest := [.ref q_38, .ref fa]) (wr := [(fa, .inr (1, [.ref q_5, .ref q_16, .ref q_27, .null, .null, .int 0, .int 0])), (q_5, .inr (2, [.int 0, .int 0, .int 0, .int 0])), (q_16, .inr (2, [.int 0, .int 0, .int 0, .int 0])), (q_27, .inr (2, [.int 0, .int 0, .int 0, .int 0]))]) X hE hA (c_X3_init_300 l D cI cZ ts q_38) (cwI 1 hts gX1_init_X3_init rfl rfl rfl (hts (.initialized RX3) (by decide +kernel)) (hts (.methodLink RX1 26 yX3_init) (by decide +kernel)) (hts (.instanceMethod yX3_init) (by decide +kernel)) rfl hdX3_init.2 ⟨Nat.le_of_ble_eq_true rfl, Nat.le_of_ble_eq_true rfl⟩) dX1_init_45 hP hD hS [4] [0, 1, 2, 3] ⟨rfl, trivial⟩ ⟨rfl, rfl, rfl, rfl, trivial⟩ (by decide +kernel) (by decide +kernel) (by decide +kernel) rfl hl rfl (Nat.le_of_ble_eq_true rfl) ⟨Nat.le_of_ble_eq_true rfl, Nat.le_of_ble_eq_true rfl⟩ (fun u_45 H locs hw_45 hP hD hS => ?_)
  obtain ⟨a0_1, a1_2, a2_3, a3_4⟩ := u_45
  have hP : va_P D vwCl [(fa, .inr (1, [.ref q_5, .ref q_16, .ref q_27, .null, .null, .int 0, .int 0])), (q_5, .inr (2, [.int 0, .int 0, .int 0, .int 0])), (q_16, .inr (2, [.int 0, .int 0, .int 0, .int 0])), (q_27, .inr (2, [.int 0, .int 0, .int 0, .int 0])), (q_38, .inr (3, [.int (nI 300), .ref a0_1, .ref a1_2, .ref a2_3, .ref a3_4, .int (nI 0)])), (a0_1, .inl (cI, 300, .inl zz0)), (a1_2, .inl (cI, 300, .inl zz0)), (a2_3, .inl (cI, 300, .inl zz0)), (a3_4, .inl (cI, 300, .inl zz0))] H := hP
  have hD : va_D A [(fa, .inr (1, [.ref q_5, .ref q_16, .ref q_27, .null, .null, .int 0, .int 0])), (q_5, .inr (2, [.int 0, .int 0, .int 0, .int 0])), (q_16, .inr (2, [.int 0, .int 0, .int 0, .int 0])), (q_27, .inr (2, [.int 0, .int 0, .int 0, .int 0])), (q_38, .inr (3, [.int (nI 300), .ref a0_1, .ref a1_2, .ref a2_3, .ref a3_4, .int (nI 0)])), (a0_1, .inl (cI, 300, .inl zz0)), (a1_2, .inl (cI, 300, .inl zz0)), (a2_3, .inl (cI, 300, .inl zz0)), (a3_4, .inl (cI, 300, .inl zz0))] := hD
  refine zk_putF (ws' := [(fa, .inr (1, [.ref q_5, .ref q_16, .ref q_27, .ref q_38, .null, .int 0, .int 0])), (q_5, .inr (2, [.int 0, .int 0, .int 0, .int 0])), (q_16, .inr (2, [.int 0, .int 0, .int 0, .int 0])), (q_27, .inr (2, [.int 0, .int 0, .int 0, .int 0])), (q_38, .inr (3, [.int (nI 300), .ref a0_1, .ref a1_2, .ref a2_3, .ref a3_4, .int (nI 0)])), (a0_1, .inl (cI, 300, .inl zz0)), (a1_2, .inl (cI, 300, .inl zz0)), (a2_3, .inl (cI, 300, .inl zz0)), (a3_4, .inl (cI, 300, .inl zz0))]) X hE hin sX1_init_48 hP hD hS 0 rfl (Nat.le_of_ble_eq_true rfl) rfl rfl rfl (fun H locs hP hD hS => ?_)
  refine lv_aload_n hx hb dX1_init_51 rfl (lv_at hl 0 rfl) ?_
  refine va_new (c0 := c) (N := 6) (ci := 3) hx hb hts iwX1_init_3 tyX3 tyX3_ok hown (hts (.classLink RX1 24 RX3) (by decide +kernel)) (hts (.instantiable RX3 6) (by decide +kernel)) (hts (.initialized RX3) (by decide +kernel)) hE.1 hP hD hS hA rfl dfX3 (Nat.le_of_ble_eq_true rfl) (Nat.le_of_ble_eq_true rfl) dX1_init_52 (fun q_52 H hP hD hS => ?_)
  have hP : va_P D vwCl [(fa, .inr (1, [.ref q_5, .ref q_16, .ref q_27, .ref q_38, .null, .int 0, .int 0])), (q_5, .inr (2, [.int 0, .int 0, .int 0, .int 0])), (q_16, .inr (2, [.int 0, .int 0, .int 0, .int 0])), (q_27, .inr (2, [.int 0, .int 0, .int 0, .int 0])), (q_38, .inr (3, [.int (nI 300), .ref a0_1, .ref a1_2, .ref a2_3, .ref a3_4, .int (nI 0)])), (a0_1, .inl (cI, 300, .inl zz0)), (a1_2, .inl (cI, 300, .inl zz0)), (a2_3, .inl (cI, 300, .inl zz0)), (a3_4, .inl (cI, 300, .inl zz0)), (q_52, .inr (3, [.int 0, .null, .null, .null, .null, .int 0]))] H := hP
  have hD : va_D A [(fa, .inr (1, [.ref q_5, .ref q_16, .ref q_27, .ref q_38, .null, .int 0, .int 0])), (q_5, .inr (2, [.int 0, .int 0, .int 0, .int 0])), (q_16, .inr (2, [.int 0, .int 0, .int 0, .int 0])), (q_27, .inr (2, [.int 0, .int 0, .int 0, .int 0])), (q_38, .inr (3, [.int (nI 300), .ref a0_1, .ref a1_2, .ref a2_3, .ref a3_4, .int (nI 0)])), (a0_1, .inl (cI, 300, .inl zz0)), (a1_2, .inl (cI, 300, .inl zz0)), (a2_3, .inl (cI, 300, .inl zz0)), (a3_4, .inl (cI, 300, .inl zz0)), (q_52, .inr (3, [.int 0, .null, .null, .null, .null, .int 0]))] := hD
  refine lv_dup hx hb dX1_init_55 rfl ?_
  refine lv_sipush (v := 300) hx hb dX1_init_56 (by decide) ?_
  refine zk_cIv (rest := [.ref q_52, .ref fa]) (wr := [(fa, .inr (1, [.ref q_5, .ref q_16, .ref q_27, .ref q_38, .null, .int 0, .int 0])), (q_5, .inr (2, [.int 0, .int 0, .int 0, .int 0])), (q_16, .inr (2, [.int 0, .int 0, .int 0, .int 0])), (q_27, .inr (2, [.int 0, .int 0, .int 0, .int 0])), (q_38, .inr (3, [.int (nI 300), .ref a0_1, .ref a1_2, .ref a2_3, .ref a3_4, .int (nI 0)])), (a0_1, .inl (cI, 300, .inl zz0)), (a1_2, .inl (cI, 300, .inl zz0)), (a2_3, .inl (cI, 300, .inl zz0)), (a3_4, .inl (cI, 300, .inl zz0))]) X hE hA (c_X3_init_300 l D cI cZ ts q_52) (cwI 1 hts gX1_init_X3_init rfl rfl rfl (hts (.initialized RX3) (by decide +kernel)) (hts (.methodLink RX1 26 yX3_init) (by decide +kernel)) (hts (.instanceMethod yX3_init) (by decide +kernel)) rfl hdX3_init.2 ⟨Nat.le_of_ble_eq_true rfl, Nat.le_of_ble_eq_true rfl⟩) dX1_init_59 hP hD hS [9] [0, 1, 2, 3, 4, 5, 6, 7, 8] ⟨rfl, trivial⟩ ⟨rfl, rfl, rfl, rfl, rfl, rfl, rfl, rfl, rfl, trivial⟩ (by decide +kernel) (by decide +kernel) (by decide +kernel) rfl hl rfl (Nat.le_of_ble_eq_true rfl) ⟨Nat.le_of_ble_eq_true rfl, Nat.le_of_ble_eq_true rfl⟩ (fun u_59 H locs hw_59 hP hD hS => ?_)
  obtain ⟨a0_5, a1_6, a2_7, a3_8⟩ := u_59
  have hP : va_P D vwCl [(fa, .inr (1, [.ref q_5, .ref q_16, .ref q_27, .ref q_38, .null, .int 0, .int 0])), (q_5, .inr (2, [.int 0, .int 0, .int 0, .int 0])), (q_16, .inr (2, [.int 0, .int 0, .int 0, .int 0])), (q_27, .inr (2, [.int 0, .int 0, .int 0, .int 0])), (q_38, .inr (3, [.int (nI 300), .ref a0_1, .ref a1_2, .ref a2_3, .ref a3_4, .int (nI 0)])), (a0_1, .inl (cI, 300, .inl zz0)), (a1_2, .inl (cI, 300, .inl zz0)), (a2_3, .inl (cI, 300, .inl zz0)), (a3_4, .inl (cI, 300, .inl zz0)), (q_52, .inr (3, [.int (nI 300), .ref a0_5, .ref a1_6, .ref a2_7, .ref a3_8, .int (nI 0)])), (a0_5, .inl (cI, 300, .inl zz0)), (a1_6, .inl (cI, 300, .inl zz0)), (a2_7, .inl (cI, 300, .inl zz0)), (a3_8, .inl (cI, 300, .inl zz0))] H := hP
  have hD : va_D A [(fa, .inr (1, [.ref q_5, .ref q_16, .ref q_27, .ref q_38, .null, .int 0, .int 0])), (q_5, .inr (2, [.int 0, .int 0, .int 0, .int 0])), (q_16, .inr (2, [.int 0, .int 0, .int 0, .int 0])), (q_27, .inr (2, [.int 0, .int 0, .int 0, .int 0])), (q_38, .inr (3, [.int (nI 300), .ref a0_1, .ref a1_2, .ref a2_3, .ref a3_4, .int (nI 0)])), (a0_1, .inl (cI, 300, .inl zz0)), (a1_2, .inl (cI, 300, .inl zz0)), (a2_3, .inl (cI, 300, .inl zz0)), (a3_4, .inl (cI, 300, .inl zz0)), (q_52, .inr (3, [.int (nI 300), .ref a0_5, .ref a1_6, .ref a2_7, .ref a3_8, .int (nI 0)])), (a0_5, .inl (cI, 300, .inl zz0)), (a1_6, .inl (cI, 300, .inl zz0)), (a2_7, .inl (cI, 300, .inl zz0)), (a3_8, .inl (cI, 300, .inl zz0))] := hD
  refine zk_putF (ws' := [(fa, .inr (1, [.ref q_5, .ref q_16, .ref q_27, .ref q_38, .ref q_52, .int 0, .int 0])), (q_5, .inr (2, [.int 0, .int 0, .int 0, .int 0])), (q_16, .inr (2, [.int 0, .int 0, .int 0, .int 0])), (q_27, .inr (2, [.int 0, .int 0, .int 0, .int 0])), (q_38, .inr (3, [.int (nI 300), .ref a0_1, .ref a1_2, .ref a2_3, .ref a3_4, .int (nI 0)])), (a0_1, .inl (cI, 300, .inl zz0)), (a1_2, .inl (cI, 300, .inl zz0)), (a2_3, .inl (cI, 300, .inl zz0)), (a3_4, .inl (cI, 300, .inl zz0)), (q_52, .inr (3, [.int (nI 300), .ref a0_5, .ref a1_6, .ref a2_7, .ref a3_8, .int (nI 0)])), (a0_5, .inl (cI, 300, .inl zz0)), (a1_6, .inl (cI, 300, .inl zz0)), (a2_7, .inl (cI, 300, .inl zz0)), (a3_8, .inl (cI, 300, .inl zz0))]) X hE hin sX1_init_62 hP hD hS 0 rfl (Nat.le_of_ble_eq_true rfl) rfl rfl rfl (fun H locs hP hD hS => ?_)
  refine lv_aload_n hx hb dX1_init_65 rfl (lv_at hl 0 rfl) ?_
  refine lv_iconst (v := 0) hx hb dX1_init_66 (by decide) ?_
  refine zk_put (ws' := [(fa, .inr (1, [.ref q_5, .ref q_16, .ref q_27, .ref q_38, .ref q_52, .int 0, .int 0])), (q_5, .inr (2, [.int 0, .int 0, .int 0, .int 0])), (q_16, .inr (2, [.int 0, .int 0, .int 0, .int 0])), (q_27, .inr (2, [.int 0, .int 0, .int 0, .int 0])), (q_38, .inr (3, [.int (nI 300), .ref a0_1, .ref a1_2, .ref a2_3, .ref a3_4, .int (nI 0)])), (a0_1, .inl (cI, 300, .inl zz0)), (a1_2, .inl (cI, 300, .inl zz0)), (a2_3, .inl (cI, 300, .inl zz0)), (a3_4, .inl (cI, 300, .inl zz0)), (q_52, .inr (3, [.int (nI 300), .ref a0_5, .ref a1_6, .ref a2_7, .ref a3_8, .int (nI 0)])), (a0_5, .inl (cI, 300, .inl zz0)), (a1_6, .inl (cI, 300, .inl zz0)), (a2_7, .inl (cI, 300, .inl zz0)), (a3_8, .inl (cI, 300, .inl zz0))]) X hE sX1_init_67 hP hD hS 0 rfl (Nat.le_of_ble_eq_true rfl) rfl (fun H locs hP hD hS => ?_)
  refine lv_aload_n hx hb dX1_init_70 rfl (lv_at hl 0 rfl) ?_
  refine lv_iconst (v := 0) hx hb dX1_init_71 (by decide) ?_
  refine zk_put (ws' := [(fa, .inr (1, [.ref q_5, .ref q_16, .ref q_27, .ref q_38, .ref q_52, .int 0, .int 0])), (q_5, .inr (2, [.int 0, .int 0, .int 0, .int 0])), (q_16, .inr (2, [.int 0, .int 0, .int 0, .int 0])), (q_27, .inr (2, [.int 0, .int 0, .int 0, .int 0])), (q_38, .inr (3, [.int (nI 300), .ref a0_1, .ref a1_2, .ref a2_3, .ref a3_4, .int (nI 0)])), (a0_1, .inl (cI, 300, .inl zz0)), (a1_2, .inl (cI, 300, .inl zz0)), (a2_3, .inl (cI, 300, .inl zz0)), (a3_4, .inl (cI, 300, .inl zz0)), (q_52, .inr (3, [.int (nI 300), .ref a0_5, .ref a1_6, .ref a2_7, .ref a3_8, .int (nI 0)])), (a0_5, .inl (cI, 300, .inl zz0)), (a1_6, .inl (cI, 300, .inl zz0)), (a2_7, .inl (cI, 300, .inl zz0)), (a3_8, .inl (cI, 300, .inl zz0))]) X hE sX1_init_72 hP hD hS 0 rfl (Nat.le_of_ble_eq_true rfl) rfl (fun H locs hP hD hS => ?_)
  have hq := hret  (q_5, q_16, q_27, q_38, q_52, a0_1, a1_2, a2_3, a3_4, a0_5, a1_6, a2_7, a3_8) H locs 75 ls
  dsimp only at hq
  exact hq trivial hP hD hS dX1_init_75
