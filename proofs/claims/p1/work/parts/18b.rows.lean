set_option maxRecDepth 20000 in
set_option maxHeartbeats 2000000 in
theorem m_feed (l : Launch) (D : va_G) (E : Nat → ClassId) (sa : Nat → Nat) (a : Nat) (ad : Nat → Nat) (v0 : Int32) (v1 : Int32) (v2 : Int32) (v3 : Int32) (v4 : Int32) : KM l yX10_feed (.code yX10_feed cX10_feed 6 (some .int)) 25 822 0 0 D E sa [.ref a, .int v0, .int v1, .int v2, .int v3, .int v4] [(a, .inr (10, (mfs ad))), ((ad 15), .inl (E 2, 2000, .inl (fun _ => 0)))] (S := Unit) (fun _ => some (.int 20)) (fun _ => True) (fun _ => [(a, .inr (10, ((mfs ad).set 16 (.int 20))))]) := by
  refine KM.of (by decide) (Nat.le_of_ble_eq_true rfl) ?_
  intro p e s m below meth c A ls hx hb hr hts hml hown hlocks hnm hK hP hD hA hS hZ hl
  have hown : s.vm.findClass RX10 = some m.cls := hown
  have hl : lv_has ls 6 [(0, .ref a), (1, .int v0), (2, .int v1), (3, .int v2), (4, .int v3), (5, .int v4)] := hl
  refine lv_aload_n hx hb dX10_feed_0 rfl (lv_at hl 0 rfl) ?_
  refine lv_aload_n hx hb dX10_feed_1 rfl (lv_at hl 0 rfl) ?_
  refine va_get (D := D) (ci := 10) (v := .int 0) (C := RX10) (T := TX10) (N := 81) hx hb hts inX10 hown hK hP 0 rfl rfl 16 (by decide) (hts _ b_1330) (fun _ h9 => h9) rfl dX10_feed_2 ?_
  refine lv_bipush (v := 20) hx hb dX10_feed_5 (by decide) ?_
  refine lv_iadd hx hb dX10_feed_7 ?_
  refine k_ti (y := 20) (by decide) ?_
  refine lv_sipush (v := 2000) hx hb dX10_feed_8 (by decide) ?_
  refine lv_icmp_le (tgt := 18) hx hb dX10_feed_11 (by decide) (fun _ => ?_) (fun h9 => absurd (by decide) h9)
  refine lv_iconst (v := 0) hx hb dX10_feed_18 (by decide) ?_
  refine va_put (D := D) (ci := 10) (v := .int 0) (ty := .int) (C := RX10) (T := TX10) (N := 81) hx hb hts inX10 tyX10 tyX10_ok nmX10 hown hK hP hD hS 0 rfl rfl 0 (by decide) (hts _ b_1314) (fun _ h9 => h9) rfl (by decide +kernel) rfl rfl (Nat.le_of_ble_eq_true rfl) dX10_feed_19 (fun H locs hP hD hS => ?_)
  have hP : va_P D k_cl [(a, .inr (10, (mfs ad))), ((ad 15), .inl (E 2, 2000, .inl (fun _ => 0)))] H := hP
  have hD : va_D A [(a, .inr (10, (mfs ad))), ((ad 15), .inl (E 2, 2000, .inl (fun _ => 0)))] := hD
  refine lv_aload_n hx hb dX10_feed_22 rfl (lv_at hl 0 rfl) ?_
  refine va_get (D := D) (ci := 10) (v := .int 0) (C := RX10) (T := TX10) (N := 81) hx hb hts inX10 hown hK hP 0 rfl rfl 0 (by decide) (hts _ b_1314) (fun _ h9 => h9) rfl dX10_feed_23 ?_
  refine lv_if_le (tgt := 31) hx hb dX10_feed_26 (by decide) (fun _ => ?_) (fun h9 => absurd (by decide) h9)
  refine lv_aload_n hx hb dX10_feed_31 rfl (lv_at hl 0 rfl) ?_
  refine lv_iload_n hx hb dX10_feed_32 rfl (lv_at hl 1 rfl) ?_
  refine k_MV (As := [.int v0]) (rest := []) (ci := 10) (q0 := 0) (wr := []) ⟨hx, hb, hml, hown, hts⟩ (m_four_0 l D E sa a ad ((fun _ => 0)) v0) b_1562 b_1564 b_39 b_88 b_1565 ⟨rfl, hd_X10_four⟩ ⟨⟨by decide, by decide⟩, by decide, by decide⟩ hK hP hD hS hA hZ [0, 1] [] rfl rfl (by decide) rfl rfl rfl hl.1 (Nat.le_of_ble_eq_true rfl) dX10_feed_33 (fun u_1 H locs hu hP hD hS _ => ?_)
  obtain ⟨f1_2, rfl⟩ : ∃ z, z = u_1 := ⟨_, rfl⟩
  have hP : va_P D k_cl [(a, .inr (10, ((mfs ad).set 16 (.int 4)))), ((ad 15), .inl (E 2, 2000, .inl f1_2))] H := hP
  have hD : va_D A [(a, .inr (10, ((mfs ad).set 16 (.int 4)))), ((ad 15), .inl (E 2, 2000, .inl f1_2))] := hD
  refine W.eq (g2 := F0 m 36 ls []) rfl ?_
  refine lv_aload_n hx hb dX10_feed_36 rfl (lv_at hl 0 rfl) ?_
  refine lv_iload_n hx hb dX10_feed_37 rfl (lv_at hl 2 rfl) ?_
  refine k_MV (As := [.int v1]) (rest := []) (ci := 10) (q0 := 0) (wr := []) ⟨hx, hb, hml, hown, hts⟩ (m_four_4 l D E sa a ad f1_2 v1) b_1562 b_1564 b_39 b_88 b_1565 ⟨rfl, hd_X10_four⟩ ⟨⟨by decide, by decide⟩, by decide, by decide⟩ hK hP hD hS hA hZ [0, 1] [] rfl rfl (by decide) rfl rfl rfl hl.1 (Nat.le_of_ble_eq_true rfl) dX10_feed_38 (fun u_3 H locs hu hP hD hS _ => ?_)
  obtain ⟨f1_4, rfl⟩ : ∃ z, z = u_3 := ⟨_, rfl⟩
  have hP : va_P D k_cl [(a, .inr (10, ((mfs ad).set 16 (.int 8)))), ((ad 15), .inl (E 2, 2000, .inl f1_4))] H := hP
  have hD : va_D A [(a, .inr (10, ((mfs ad).set 16 (.int 8)))), ((ad 15), .inl (E 2, 2000, .inl f1_4))] := hD
  refine W.eq (g2 := F0 m 41 ls []) rfl ?_
  refine lv_aload_n hx hb dX10_feed_41 rfl (lv_at hl 0 rfl) ?_
  refine lv_iload_n hx hb dX10_feed_42 rfl (lv_at hl 3 rfl) ?_
  refine k_MV (As := [.int v2]) (rest := []) (ci := 10) (q0 := 0) (wr := []) ⟨hx, hb, hml, hown, hts⟩ (m_four_8 l D E sa a ad f1_4 v2) b_1562 b_1564 b_39 b_88 b_1565 ⟨rfl, hd_X10_four⟩ ⟨⟨by decide, by decide⟩, by decide, by decide⟩ hK hP hD hS hA hZ [0, 1] [] rfl rfl (by decide) rfl rfl rfl hl.1 (Nat.le_of_ble_eq_true rfl) dX10_feed_43 (fun u_5 H locs hu hP hD hS _ => ?_)
  obtain ⟨f1_6, rfl⟩ : ∃ z, z = u_5 := ⟨_, rfl⟩
  have hP : va_P D k_cl [(a, .inr (10, ((mfs ad).set 16 (.int 12)))), ((ad 15), .inl (E 2, 2000, .inl f1_6))] H := hP
  have hD : va_D A [(a, .inr (10, ((mfs ad).set 16 (.int 12)))), ((ad 15), .inl (E 2, 2000, .inl f1_6))] := hD
  refine W.eq (g2 := F0 m 46 ls []) rfl ?_
  refine lv_aload_n hx hb dX10_feed_46 rfl (lv_at hl 0 rfl) ?_
  refine lv_iload hx hb dX10_feed_47 (lv_at hl 4 rfl) ?_
  refine k_MV (As := [.int v3]) (rest := []) (ci := 10) (q0 := 0) (wr := []) ⟨hx, hb, hml, hown, hts⟩ (m_four_12 l D E sa a ad f1_6 v3) b_1562 b_1564 b_39 b_88 b_1565 ⟨rfl, hd_X10_four⟩ ⟨⟨by decide, by decide⟩, by decide, by decide⟩ hK hP hD hS hA hZ [0, 1] [] rfl rfl (by decide) rfl rfl rfl hl.1 (Nat.le_of_ble_eq_true rfl) dX10_feed_49 (fun u_7 H locs hu hP hD hS _ => ?_)
  obtain ⟨f1_8, rfl⟩ : ∃ z, z = u_7 := ⟨_, rfl⟩
  have hP : va_P D k_cl [(a, .inr (10, ((mfs ad).set 16 (.int 16)))), ((ad 15), .inl (E 2, 2000, .inl f1_8))] H := hP
  have hD : va_D A [(a, .inr (10, ((mfs ad).set 16 (.int 16)))), ((ad 15), .inl (E 2, 2000, .inl f1_8))] := hD
  refine W.eq (g2 := F0 m 52 ls []) rfl ?_
  refine lv_aload_n hx hb dX10_feed_52 rfl (lv_at hl 0 rfl) ?_
  refine lv_iload hx hb dX10_feed_53 (lv_at hl 5 rfl) ?_
  refine k_MV (As := [.int v4]) (rest := []) (ci := 10) (q0 := 0) (wr := []) ⟨hx, hb, hml, hown, hts⟩ (m_four_16 l D E sa a ad f1_8 v4) b_1562 b_1564 b_39 b_88 b_1565 ⟨rfl, hd_X10_four⟩ ⟨⟨by decide, by decide⟩, by decide, by decide⟩ hK hP hD hS hA hZ [0, 1] [] rfl rfl (by decide) rfl rfl rfl hl.1 (Nat.le_of_ble_eq_true rfl) dX10_feed_55 (fun u_9 H locs hu hP hD hS _ => ?_)
  obtain ⟨f1_10, rfl⟩ : ∃ z, z = u_9 := ⟨_, rfl⟩
  have hP : va_P D k_cl [(a, .inr (10, ((mfs ad).set 16 (.int 20)))), ((ad 15), .inl (E 2, 2000, .inl f1_10))] H := hP
  have hD : va_D A [(a, .inr (10, ((mfs ad).set 16 (.int 20)))), ((ad 15), .inl (E 2, 2000, .inl f1_10))] := hD
  refine W.eq (g2 := F0 m 58 ls []) rfl ?_
  refine lv_aload_n hx hb dX10_feed_58 rfl (lv_at hl 0 rfl) ?_
  refine va_get (D := D) (ci := 10) (v := .int 20) (C := RX10) (T := TX10) (N := 81) hx hb hts inX10 hown hK hP 0 rfl rfl 16 (by decide) (hts _ b_1330) (fun _ h9 => h9) rfl dX10_feed_59 ?_
  exact m_i () hx hb hr hlocks rfl trivial (hP.sub [0] rfl) (hD.sub [0] (by decide) rfl) hS (by decide) (by decide) dX10_feed_62
set_option maxRecDepth 20000 in
set_option maxHeartbeats 2000000 in
theorem m_end_0 (l : Launch) (D : va_G) (E : Nat → ClassId) (sa : Nat → Nat) (a : Nat) (ad : Nat → Nat) : KM l yX10_end (.code yX10_end cX10_end 2 (some .int)) 12 400 0 0 D E sa [.ref a, .int 0] [(a, .inr (10, (mfs ad)))] (S := Unit) (fun _ => some (.int 0)) (fun _ => True) (fun _ => [(a, .inr (10, (mfs ad)))]) := by
  refine KM.of (by decide) (Nat.le_of_ble_eq_true rfl) ?_
  intro p e s m below meth c A ls hx hb hr hts hml hown hlocks hnm hK hP hD hA hS hZ hl
  have hown : s.vm.findClass RX10 = some m.cls := hown
  have hl : lv_has ls 2 [(0, .ref a), (1, .int 0)] := hl
  refine lv_aload_n hx hb dX10_end_0 rfl (lv_at hl 0 rfl) ?_
  refine lv_iload_n hx hb dX10_end_1 rfl (lv_at hl 1 rfl) ?_
  refine lv_if_lt (tgt := 13) hx hb dX10_end_2 (by decide) (fun h9 => absurd h9 (by decide)) (fun _ => ?_)
  refine lv_iload_n hx hb dX10_end_5 rfl (lv_at hl 1 rfl) ?_
  refine lv_aload_n hx hb dX10_end_6 rfl (lv_at hl 0 rfl) ?_
  refine va_get (D := D) (ci := 10) (v := .int 0) (C := RX10) (T := TX10) (N := 81) hx hb hts inX10 hown hK hP 0 rfl rfl 16 (by decide) (hts _ b_1330) (fun _ h9 => h9) rfl dX10_end_7 ?_
  refine lv_icmp_le (tgt := 17) hx hb dX10_end_10 (by decide) (fun _ => ?_) (fun h9 => absurd (by decide) h9)
  refine lv_iconst (v := 0) hx hb dX10_end_17 (by decide) ?_
  refine va_put (D := D) (ci := 10) (v := .int 0) (ty := .int) (C := RX10) (T := TX10) (N := 81) hx hb hts inX10 tyX10 tyX10_ok nmX10 hown hK hP hD hS 0 rfl rfl 0 (by decide) (hts _ b_1314) (fun _ h9 => h9) rfl (by decide +kernel) rfl rfl (Nat.le_of_ble_eq_true rfl) dX10_end_18 (fun H locs hP hD hS => ?_)
  have hP : va_P D k_cl [(a, .inr (10, (mfs ad)))] H := hP
  have hD : va_D A [(a, .inr (10, (mfs ad)))] := hD
  refine lv_aload_n hx hb dX10_end_21 rfl (lv_at hl 0 rfl) ?_
  refine va_get (D := D) (ci := 10) (v := .int 0) (C := RX10) (T := TX10) (N := 81) hx hb hts inX10 hown hK hP 0 rfl rfl 0 (by decide) (hts _ b_1314) (fun _ h9 => h9) rfl dX10_end_22 ?_
  refine lv_if_le (tgt := 30) hx hb dX10_end_25 (by decide) (fun _ => ?_) (fun h9 => absurd (by decide) h9)
  refine lv_aload_n hx hb dX10_end_30 rfl (lv_at hl 0 rfl) ?_
  refine lv_iload_n hx hb dX10_end_31 rfl (lv_at hl 1 rfl) ?_
  refine va_put (D := D) (ci := 10) (v := .int 0) (ty := .int) (C := RX10) (T := TX10) (N := 81) hx hb hts inX10 tyX10 tyX10_ok nmX10 hown hK hP hD hS 0 rfl rfl 16 (by decide) (hts _ b_1330) (fun _ h9 => h9) rfl (by decide +kernel) rfl rfl (Nat.le_of_ble_eq_true rfl) dX10_end_32 (fun H locs hP hD hS => ?_)
  have hP : va_P D k_cl [(a, .inr (10, (mfs ad)))] H := hP
  have hD : va_D A [(a, .inr (10, (mfs ad)))] := hD
  refine lv_iload_n hx hb dX10_end_35 rfl (lv_at hl 1 rfl) ?_
  exact m_i () hx hb hr hlocks rfl trivial (hP.sub [0] rfl) (hD.sub [0] (by decide) rfl) hS (by decide) (by decide) dX10_end_36
set_option maxRecDepth 20000 in
set_option maxHeartbeats 2000000 in
theorem m_end_t (l : Launch) (D : va_G) (E : Nat → ClassId) (sa : Nat → Nat) (a : Nat) (ad : Nat → Nat) (v : Int32) (h : ¬ v = 0) : KM l yX10_end (.code yX10_end cX10_end 2 (some .int)) 12 400 0 0 D E sa [.ref a, .int v] [(a, .inr (10, (mfs ad)))] (S := Unit) (fun _ => some (.int 0)) (fun _ => True) (fun _ => [(a, .inr (10, ((mfs ad).set 0 (.int 1))))]) := by
  refine KM.of (by decide) (Nat.le_of_ble_eq_true rfl) ?_
  intro p e s m below meth c A ls hx hb hr hts hml hown hlocks hnm hK hP hD hA hS hZ hl
  have hown : s.vm.findClass RX10 = some m.cls := hown
  have hl : lv_has ls 2 [(0, .ref a), (1, .int v)] := hl
  refine lv_aload_n hx hb dX10_end_0 rfl (lv_at hl 0 rfl) ?_
  refine lv_iload_n hx hb dX10_end_1 rfl (lv_at hl 1 rfl) ?_
  refine lv_if_lt (tgt := 13) hx hb dX10_end_2 (by decide) (fun c1 => ?_) (fun c1 => ?_)
  · refine lv_iconst (v := 1) hx hb dX10_end_13 (by decide) ?_
    refine lv_goto (tgt := 18) hx hb dX10_end_14 (by decide) ?_
    refine va_put (D := D) (ci := 10) (v := .int 1) (ty := .int) (C := RX10) (T := TX10) (N := 81) hx hb hts inX10 tyX10 tyX10_ok nmX10 hown hK hP hD hS 0 rfl rfl 0 (by decide) (hts _ b_1314) (fun _ h9 => h9) rfl (by decide +kernel) rfl rfl (Nat.le_of_ble_eq_true rfl) dX10_end_18 (fun H locs hP hD hS => ?_)
    have hP : va_P D k_cl [(a, .inr (10, ((mfs ad).set 0 (.int 1))))] H := hP
    have hD : va_D A [(a, .inr (10, ((mfs ad).set 0 (.int 1))))] := hD
    refine lv_aload_n hx hb dX10_end_21 rfl (lv_at hl 0 rfl) ?_
    refine va_get (D := D) (ci := 10) (v := .int 1) (C := RX10) (T := TX10) (N := 81) hx hb hts inX10 hown hK hP 0 rfl rfl 0 (by decide) (hts _ b_1314) (fun _ h9 => h9) rfl dX10_end_22 ?_
    refine lv_if_le (tgt := 30) hx hb dX10_end_25 (by decide) (fun h9 => absurd h9 (by decide)) (fun _ => ?_)
    refine lv_iconst (v := 0) hx hb dX10_end_28 (by decide) ?_
    exact m_i () hx hb hr hlocks rfl trivial (hP.sub [0] rfl) (hD.sub [0] (by decide) rfl) hS (by decide) (by decide) dX10_end_29
  · refine lv_iload_n hx hb dX10_end_5 rfl (lv_at hl 1 rfl) ?_
    refine lv_aload_n hx hb dX10_end_6 rfl (lv_at hl 0 rfl) ?_
    refine va_get (D := D) (ci := 10) (v := .int 0) (C := RX10) (T := TX10) (N := 81) hx hb hts inX10 hown hK hP 0 rfl rfl 16 (by decide) (hts _ b_1330) (fun _ h9 => h9) rfl dX10_end_7 ?_
    refine lv_icmp_le (tgt := 17) hx hb dX10_end_10 (by decide) (fun h9 => absurd h9 (z_pos c1 h)) (fun _ => ?_)
    refine lv_iconst (v := 1) hx hb dX10_end_13 (by decide) ?_
    refine lv_goto (tgt := 18) hx hb dX10_end_14 (by decide) ?_
    refine va_put (D := D) (ci := 10) (v := .int 1) (ty := .int) (C := RX10) (T := TX10) (N := 81) hx hb hts inX10 tyX10 tyX10_ok nmX10 hown hK hP hD hS 0 rfl rfl 0 (by decide) (hts _ b_1314) (fun _ h9 => h9) rfl (by decide +kernel) rfl rfl (Nat.le_of_ble_eq_true rfl) dX10_end_18 (fun H locs hP hD hS => ?_)
    have hP : va_P D k_cl [(a, .inr (10, ((mfs ad).set 0 (.int 1))))] H := hP
    have hD : va_D A [(a, .inr (10, ((mfs ad).set 0 (.int 1))))] := hD
    refine lv_aload_n hx hb dX10_end_21 rfl (lv_at hl 0 rfl) ?_
    refine va_get (D := D) (ci := 10) (v := .int 1) (C := RX10) (T := TX10) (N := 81) hx hb hts inX10 hown hK hP 0 rfl rfl 0 (by decide) (hts _ b_1314) (fun _ h9 => h9) rfl dX10_end_22 ?_
    refine lv_if_le (tgt := 30) hx hb dX10_end_25 (by decide) (fun h9 => absurd h9 (by decide)) (fun _ => ?_)
    refine lv_iconst (v := 0) hx hb dX10_end_28 (by decide) ?_
    exact m_i () hx hb hr hlocks rfl trivial (hP.sub [0] rfl) (hD.sub [0] (by decide) rfl) hS (by decide) (by decide) dX10_end_29
set_option maxRecDepth 20000 in
set_option maxHeartbeats 2000000 in
theorem m_read (l : Launch) (D : va_G) (E : Nat → ClassId) (sa : Nat → Nat) (a : Nat) (ad : Nat → Nat) : KM l yX10_read (.code yX10_read cX10_read 5 (some .int)) 25 823 0 0 D E sa [.ref a] [(a, .inr (10, (mfs ad)))] (S := Unit) (fun _ => some (.int 0)) (fun _ => True) (fun _ => [(a, .inr (10, ((mfs ad).set 22 (.int (-1)))))]) := by
  refine KM.of (by decide) (Nat.le_of_ble_eq_true rfl) ?_
  intro p e s m below meth c A ls hx hb hr hts hml hown hlocks hnm hK hP hD hA hS hZ hl
  have hown : s.vm.findClass RX10 = some m.cls := hown
  have hl : lv_has ls 5 [(0, .ref a)] := hl
  refine lv_aload_n hx hb dX10_read_0 rfl (lv_at hl 0 rfl) ?_
  refine lv_iconst (v := 0) hx hb dX10_read_1 (by decide) ?_
  refine va_put (D := D) (ci := 10) (v := .int 0) (ty := .int) (C := RX10) (T := TX10) (N := 81) hx hb hts inX10 tyX10 tyX10_ok nmX10 hown hK hP hD hS 0 rfl rfl 0 (by decide) (hts _ b_1314) (fun _ h9 => h9) rfl (by decide +kernel) rfl rfl (Nat.le_of_ble_eq_true rfl) dX10_read_2 (fun H locs hP hD hS => ?_)
  have hP : va_P D k_cl [(a, .inr (10, (mfs ad)))] H := hP
  have hD : va_D A [(a, .inr (10, (mfs ad)))] := hD
  refine lv_aload_n hx hb dX10_read_5 rfl (lv_at hl 0 rfl) ?_
  refine va_get (D := D) (ci := 10) (v := .int 0) (C := RX10) (T := TX10) (N := 81) hx hb hts inX10 hown hK hP 0 rfl rfl 1 (by decide) (hts _ b_1315) (fun _ h9 => h9) rfl dX10_read_6 ?_
  refine lv_istore_n (lv' := [(1, .int 0), (0, .ref a)]) hx hb dX10_read_9 rfl hl (by decide) rfl (fun ls hl => ?_)
  refine lv_aload_n hx hb dX10_read_10 rfl (lv_at hl 1 rfl) ?_
  refine va_get (D := D) (ci := 10) (v := .int 0) (C := RX10) (T := TX10) (N := 81) hx hb hts inX10 hown hK hP 0 rfl rfl 5 (by decide) (hts _ b_1319) (fun _ h9 => h9) rfl dX10_read_11 ?_
  refine lv_istore_n (lv' := [(2, .int 0), (1, .int 0), (0, .ref a)]) hx hb dX10_read_14 rfl hl (by decide) rfl (fun ls hl => ?_)
  refine lv_aload_n hx hb dX10_read_15 rfl (lv_at hl 2 rfl) ?_
  refine k_RV (As := []) (rest := []) (ci := 10) (q0 := 0) ⟨hx, hb, hml, hown, hts⟩ (m_together l D E a ad) b_1574 b_1576 b_40 b_88 b_1577 ⟨rfl, hd_X10_together⟩ ⟨⟨by decide, by decide⟩, by decide, by decide⟩ hK hP [0] rfl rfl rfl rfl hl.1 (Nat.le_of_ble_eq_true rfl) dX10_read_16 ?_
  refine lv_lstore_n (lv' := [(3, .long 0), (2, .int 0), (1, .int 0), (0, .ref a)]) hx hb dX10_read_19 rfl hl (by decide) rfl (fun ls hl => ?_)
  refine lv_aload_n hx hb dX10_read_20 rfl (lv_at hl 3 rfl) ?_
  refine lv_iconst (v := 0) hx hb dX10_read_21 (by decide) ?_
  refine va_put (D := D) (ci := 10) (v := .int 0) (ty := .int) (C := RX10) (T := TX10) (N := 81) hx hb hts inX10 tyX10 tyX10_ok nmX10 hown hK hP hD hS 0 rfl rfl 21 (by decide) (hts _ b_1335) (fun _ h9 => h9) rfl (by decide +kernel) rfl rfl (Nat.le_of_ble_eq_true rfl) dX10_read_22 (fun H locs hP hD hS => ?_)
  have hP : va_P D k_cl [(a, .inr (10, (mfs ad)))] H := hP
  have hD : va_D A [(a, .inr (10, (mfs ad)))] := hD
  refine lv_aload_n hx hb dX10_read_25 rfl (lv_at hl 3 rfl) ?_
  refine lv_iconst (v := -1) hx hb dX10_read_26 (by decide) ?_
  refine va_put (D := D) (ci := 10) (v := .int (-1)) (ty := .int) (C := RX10) (T := TX10) (N := 81) hx hb hts inX10 tyX10 tyX10_ok nmX10 hown hK hP hD hS 0 rfl rfl 22 (by decide) (hts _ b_1336) (fun _ h9 => h9) rfl (by decide +kernel) rfl rfl (Nat.le_of_ble_eq_true rfl) dX10_read_27 (fun H locs hP hD hS => ?_)
  have hP : va_P D k_cl [(a, .inr (10, ((mfs ad).set 22 (.int (-1)))))] H := hP
  have hD : va_D A [(a, .inr (10, ((mfs ad).set 22 (.int (-1)))))] := hD
  refine lv_aload_n hx hb dX10_read_30 rfl (lv_at hl 3 rfl) ?_
  refine lv_iconst (v := 0) hx hb dX10_read_31 (by decide) ?_
  refine va_put (D := D) (ci := 10) (v := .int 0) (ty := .int) (C := RX10) (T := TX10) (N := 81) hx hb hts inX10 tyX10 tyX10_ok nmX10 hown hK hP hD hS 0 rfl rfl 18 (by decide) (hts _ b_1332) (fun _ h9 => h9) rfl (by decide +kernel) rfl rfl (Nat.le_of_ble_eq_true rfl) dX10_read_32 (fun H locs hP hD hS => ?_)
  have hP : va_P D k_cl [(a, .inr (10, ((mfs ad).set 22 (.int (-1)))))] H := hP
  have hD : va_D A [(a, .inr (10, ((mfs ad).set 22 (.int (-1)))))] := hD
  refine lv_aload_n hx hb dX10_read_35 rfl (lv_at hl 3 rfl) ?_
  refine va_get (D := D) (ci := 10) (v := .int 0) (C := RX10) (T := TX10) (N := 81) hx hb hts inX10 hown hK hP 0 rfl rfl 18 (by decide) (hts _ b_1332) (fun _ h9 => h9) rfl dX10_read_36 ?_
  refine lv_aload_n hx hb dX10_read_39 rfl (lv_at hl 3 rfl) ?_
  refine va_get (D := D) (ci := 10) (v := .int 0) (C := RX10) (T := TX10) (N := 81) hx hb hts inX10 hown hK hP 0 rfl rfl 16 (by decide) (hts _ b_1330) (fun _ h9 => h9) rfl dX10_read_40 ?_
  refine lv_icmp_ge (tgt := 90) hx hb dX10_read_43 (by decide) (fun _ => ?_) (fun h9 => absurd (by decide) h9)
  refine lv_aload_n hx hb dX10_read_90 rfl (lv_at hl 3 rfl) ?_
  refine lv_iconst (v := 0) hx hb dX10_read_91 (by decide) ?_
  refine va_put (D := D) (ci := 10) (v := .int 0) (ty := .int) (C := RX10) (T := TX10) (N := 81) hx hb hts inX10 tyX10 tyX10_ok nmX10 hown hK hP hD hS 0 rfl rfl 16 (by decide) (hts _ b_1330) (fun _ h9 => h9) rfl (by decide +kernel) rfl rfl (Nat.le_of_ble_eq_true rfl) dX10_read_92 (fun H locs hP hD hS => ?_)
  have hP : va_P D k_cl [(a, .inr (10, ((mfs ad).set 22 (.int (-1)))))] H := hP
  have hD : va_D A [(a, .inr (10, ((mfs ad).set 22 (.int (-1)))))] := hD
  refine lv_aload_n hx hb dX10_read_95 rfl (lv_at hl 3 rfl) ?_
  refine lv_aload_n hx hb dX10_read_96 rfl (lv_at hl 3 rfl) ?_
  refine va_get (D := D) (ci := 10) (v := .int (-1)) (C := RX10) (T := TX10) (N := 81) hx hb hts inX10 hown hK hP 0 rfl rfl 22 (by decide) (hts _ b_1336) (fun _ h9 => h9) rfl dX10_read_97 ?_
  refine va_put (D := D) (ci := 10) (v := .int (-1)) (ty := .int) (C := RX10) (T := TX10) (N := 81) hx hb hts inX10 tyX10 tyX10_ok nmX10 hown hK hP hD hS 0 rfl rfl 17 (by decide) (hts _ b_1331) (fun _ h9 => h9) rfl (by decide +kernel) rfl rfl (Nat.le_of_ble_eq_true rfl) dX10_read_100 (fun H locs hP hD hS => ?_)
  have hP : va_P D k_cl [(a, .inr (10, ((mfs ad).set 22 (.int (-1)))))] H := hP
  have hD : va_D A [(a, .inr (10, ((mfs ad).set 22 (.int (-1)))))] := hD
  refine lv_aload_n hx hb dX10_read_103 rfl (lv_at hl 3 rfl) ?_
  refine va_get (D := D) (ci := 10) (v := .int 0) (C := RX10) (T := TX10) (N := 81) hx hb hts inX10 hown hK hP 0 rfl rfl 21 (by decide) (hts _ b_1335) (fun _ h9 => h9) rfl dX10_read_104 ?_
  refine lv_if_le (tgt := 123) hx hb dX10_read_107 (by decide) (fun _ => ?_) (fun h9 => absurd (by decide) h9)
  refine lv_aload_n hx hb dX10_read_123 rfl (lv_at hl 3 rfl) ?_
  refine va_get (D := D) (ci := 10) (v := .int 0) (C := RX10) (T := TX10) (N := 81) hx hb hts inX10 hown hK hP 0 rfl rfl 1 (by decide) (hts _ b_1315) (fun _ h9 => h9) rfl dX10_read_124 ?_
  refine lv_iload_n hx hb dX10_read_127 rfl (lv_at hl 2 rfl) ?_
  refine lv_icmp_gt (tgt := 139) hx hb dX10_read_128 (by decide) (fun h9 => absurd h9 (by decide)) (fun _ => ?_)
  refine lv_aload_n hx hb dX10_read_131 rfl (lv_at hl 3 rfl) ?_
  refine va_get (D := D) (ci := 10) (v := .int 0) (C := RX10) (T := TX10) (N := 81) hx hb hts inX10 hown hK hP 0 rfl rfl 5 (by decide) (hts _ b_1319) (fun _ h9 => h9) rfl dX10_read_132 ?_
  refine lv_iload_n hx hb dX10_read_135 rfl (lv_at hl 1 rfl) ?_
  refine lv_icmp_le (tgt := 143) hx hb dX10_read_136 (by decide) (fun _ => ?_) (fun h9 => absurd (by decide) h9)
  refine lv_aload_n hx hb dX10_read_143 rfl (lv_at hl 3 rfl) ?_
  refine va_get (D := D) (ci := 10) (v := .int 0) (C := RX10) (T := TX10) (N := 81) hx hb hts inX10 hown hK hP 0 rfl rfl 21 (by decide) (hts _ b_1335) (fun _ h9 => h9) rfl dX10_read_144 ?_
  exact m_i () hx hb hr hlocks rfl trivial (hP.sub [0] rfl) (hD.sub [0] (by decide) rfl) hS (by decide) (by decide) dX10_read_147
set_option maxRecDepth 20000 in
set_option maxHeartbeats 2000000 in
theorem m_place (l : Launch) (D : va_G) (E : Nat → ClassId) (sa : Nat → Nat) (a : Nat) (ad : Nat → Nat) : KM l yX10_place (.code yX10_place cX10_place 1 (some .int)) 12 400 0 0 D E sa [.ref a] [(a, .inr (10, (mfs ad)))] (S := Unit) (fun _ => some (.int (-1))) (fun _ => True) (fun _ => [(a, .inr (10, (mfs ad)))]) := by
  refine KM.of (by decide) (Nat.le_of_ble_eq_true rfl) ?_
  intro p e s m below meth c A ls hx hb hr hts hml hown hlocks hnm hK hP hD hA hS hZ hl
  have hown : s.vm.findClass RX10 = some m.cls := hown
  have hl : lv_has ls 1 [(0, .ref a)] := hl
  refine lv_aload_n hx hb dX10_place_0 rfl (lv_at hl 0 rfl) ?_
  refine lv_iconst (v := 0) hx hb dX10_place_1 (by decide) ?_
  refine va_put (D := D) (ci := 10) (v := .int 0) (ty := .int) (C := RX10) (T := TX10) (N := 81) hx hb hts inX10 tyX10 tyX10_ok nmX10 hown hK hP hD hS 0 rfl rfl 0 (by decide) (hts _ b_1314) (fun _ h9 => h9) rfl (by decide +kernel) rfl rfl (Nat.le_of_ble_eq_true rfl) dX10_place_2 (fun H locs hP hD hS => ?_)
  have hP : va_P D k_cl [(a, .inr (10, (mfs ad)))] H := hP
  have hD : va_D A [(a, .inr (10, (mfs ad)))] := hD
  refine lv_aload_n hx hb dX10_place_5 rfl (lv_at hl 0 rfl) ?_
  refine va_get (D := D) (ci := 10) (v := .int (-1)) (C := RX10) (T := TX10) (N := 81) hx hb hts inX10 hown hK hP 0 rfl rfl 17 (by decide) (hts _ b_1331) (fun _ h9 => h9) rfl dX10_place_6 ?_
  exact m_i () hx hb hr hlocks rfl trivial (hP.sub [0] rfl) (hD.sub [0] (by decide) rfl) hS (by decide) (by decide) dX10_place_9
set_option maxRecDepth 20000 in
set_option maxHeartbeats 2000000 in
theorem m_node (l : Launch) (D : va_G) (E : Nat → ClassId) (sa : Nat → Nat) (a : Nat) (ad : Nat → Nat) (v : Int32) (w : Int32) (hv : ((-1000000 : Int32) ≤ v ∧ v ≤ 1000000)) (hw : ((-1000000 : Int32) ≤ w ∧ w ≤ 1000000)) : KM l yX10_node (.code yX10_node cX10_node 3 (some .int)) 25 822 0 0 D E sa [.ref a, .int v, .int w] [(a, .inr (10, (mfs ad))), ((ad 2), .inl (E 0, 36, .inl (fun _ => 0))), ((ad 3), .inl (E 0, 36, .inl (fun _ => 0))), ((ad 4), .inl (E 1, 36, .inr (.inl (fun _ => 0)))), ((ad 47), .inl (E 0, 36, .inl (fun _ => 0)))] (S := Unit) (fun _ => some (.int 0)) (fun _ => True) (fun _ => [(a, .inr (10, ((mfs ad).set 1 (.int 1))))]) := by
  refine KM.of (by decide) (Nat.le_of_ble_eq_true rfl) ?_
  intro p e s m below meth c A ls hx hb hr hts hml hown hlocks hnm hK hP hD hA hS hZ hl
  have hown : s.vm.findClass RX10 = some m.cls := hown
  have hl : lv_has ls 3 [(0, .ref a), (1, .int v), (2, .int w)] := hl
  refine lv_aload_n hx hb dX10_node_0 rfl (lv_at hl 0 rfl) ?_
  refine lv_iload_n hx hb dX10_node_1 rfl (lv_at hl 1 rfl) ?_
  refine lv_i2l (v := (v : Int32).toInt64) hx hb dX10_node_2 rfl ?_
  refine k_RS (As := [.long ((v : Int32).toInt64)]) (rest := [.ref a])  ⟨hx, hb, hml, hown, hts⟩ (m_size l D E (((v : Int32).toInt64))) b_1578 b_1579 b_88 b_1580 hd_X10_size ⟨⟨by decide, by decide⟩, by decide, by decide⟩ hK hP [] rfl rfl hl.1 (Nat.le_of_ble_eq_true rfl) dX10_node_3 ?_
  refine lv_ldc2 hx hb hown (hts _ b_1605) dX10_node_6 ?_
  refine W.lcmp hx hb dX10_node_9 ?_
  refine lv_if_gt (tgt := 25) hx hb dX10_node_10 (by decide) (fun h9 => absurd h9 (Int32.not_lt.mpr (z_cle hv))) (fun _ => ?_)
  refine lv_iload_n hx hb dX10_node_13 rfl (lv_at hl 2 rfl) ?_
  refine lv_i2l (v := (w : Int32).toInt64) hx hb dX10_node_14 rfl ?_
  refine k_RS (As := [.long ((w : Int32).toInt64)]) (rest := [.ref a])  ⟨hx, hb, hml, hown, hts⟩ (m_size l D E (((w : Int32).toInt64))) b_1578 b_1579 b_88 b_1580 hd_X10_size ⟨⟨by decide, by decide⟩, by decide, by decide⟩ hK hP [] rfl rfl hl.1 (Nat.le_of_ble_eq_true rfl) dX10_node_15 ?_
  refine lv_ldc2 hx hb hown (hts _ b_1605) dX10_node_18 ?_
  refine W.lcmp hx hb dX10_node_21 ?_
  refine lv_if_le (tgt := 29) hx hb dX10_node_22 (by decide) (fun _ => ?_) (fun h9 => absurd (z_cle hw) h9)
  refine lv_aload_n hx hb dX10_node_29 rfl (lv_at hl 0 rfl) ?_
  refine va_get (D := D) (ci := 10) (v := .int 0) (C := RX10) (T := TX10) (N := 81) hx hb hts inX10 hown hK hP 0 rfl rfl 1 (by decide) (hts _ b_1315) (fun _ h9 => h9) rfl dX10_node_30 ?_
  refine lv_bipush (v := 24) hx hb dX10_node_33 (by decide) ?_
  refine lv_icmp_ne (tgt := 42) hx hb dX10_node_35 (by decide) (fun _ => ?_) (fun h9 => absurd h9 (by decide))
  refine lv_iconst (v := 0) hx hb dX10_node_42 (by decide) ?_
  refine va_put (D := D) (ci := 10) (v := .int 0) (ty := .int) (C := RX10) (T := TX10) (N := 81) hx hb hts inX10 tyX10 tyX10_ok nmX10 hown hK hP hD hS 0 rfl rfl 0 (by decide) (hts _ b_1314) (fun _ h9 => h9) rfl (by decide +kernel) rfl rfl (Nat.le_of_ble_eq_true rfl) dX10_node_43 (fun H locs hP hD hS => ?_)
  have hP : va_P D k_cl [(a, .inr (10, (mfs ad))), ((ad 2), .inl (E 0, 36, .inl (fun _ => 0))), ((ad 3), .inl (E 0, 36, .inl (fun _ => 0))), ((ad 4), .inl (E 1, 36, .inr (.inl (fun _ => 0)))), ((ad 47), .inl (E 0, 36, .inl (fun _ => 0)))] H := hP
  have hD : va_D A [(a, .inr (10, (mfs ad))), ((ad 2), .inl (E 0, 36, .inl (fun _ => 0))), ((ad 3), .inl (E 0, 36, .inl (fun _ => 0))), ((ad 4), .inl (E 1, 36, .inr (.inl (fun _ => 0)))), ((ad 47), .inl (E 0, 36, .inl (fun _ => 0)))] := hD
  refine lv_aload_n hx hb dX10_node_46 rfl (lv_at hl 0 rfl) ?_
  refine va_get (D := D) (ci := 10) (v := .int 0) (C := RX10) (T := TX10) (N := 81) hx hb hts inX10 hown hK hP 0 rfl rfl 0 (by decide) (hts _ b_1314) (fun _ h9 => h9) rfl dX10_node_47 ?_
  refine lv_if_le (tgt := 55) hx hb dX10_node_50 (by decide) (fun _ => ?_) (fun h9 => absurd (by decide) h9)
  refine lv_aload_n hx hb dX10_node_55 rfl (lv_at hl 0 rfl) ?_
  refine lv_iload_n hx hb dX10_node_56 rfl (lv_at hl 1 rfl) ?_
  refine lv_iload_n hx hb dX10_node_57 rfl (lv_at hl 2 rfl) ?_
  refine k_MV (As := [.int v, .int w]) (rest := []) (ci := 10) (q0 := 0) (wr := []) ⟨hx, hb, hml, hown, hts⟩ (m_comes l D E sa a ad v w) b_1613 b_1615 b_47 b_88 b_1616 ⟨rfl, hd_X10_comes⟩ ⟨⟨by decide, by decide⟩, by decide, by decide⟩ hK hP hD hS hA hZ [0, 1, 2, 3, 4] [] rfl rfl (by decide) rfl rfl rfl hl.1 (Nat.le_of_ble_eq_true rfl) dX10_node_58 (fun u_1 H locs hu hP hD hS _ => ?_)
  have hP : va_P D k_cl [(a, .inr (10, ((mfs ad).set 1 (.int 1))))] H := hP
  have hD : va_D A [(a, .inr (10, ((mfs ad).set 1 (.int 1))))] := hD
  refine W.eq (g2 := F0 m 61 ls []) rfl ?_
  refine lv_aload_n hx hb dX10_node_61 rfl (lv_at hl 0 rfl) ?_
  refine k_MV (As := []) (rest := []) (ci := 10) (q0 := 0) (wr := []) ⟨hx, hb, hml, hown, hts⟩ (m_changes_1 l D E sa a ad) b_1630 b_1632 b_51 b_88 b_1633 ⟨rfl, hd_X10_changes⟩ ⟨⟨by decide, by decide⟩, by decide, by decide⟩ hK hP hD hS hA hZ [0] [] rfl rfl (by decide) rfl rfl rfl hl.1 (Nat.le_of_ble_eq_true rfl) dX10_node_62 (fun u_2 H locs hu hP hD hS _ => ?_)
  have hP : va_P D k_cl [(a, .inr (10, ((mfs ad).set 1 (.int 1))))] H := hP
  have hD : va_D A [(a, .inr (10, ((mfs ad).set 1 (.int 1))))] := hD
  refine W.eq (g2 := F0 m 65 ls []) rfl ?_
  refine lv_aload_n hx hb dX10_node_65 rfl (lv_at hl 0 rfl) ?_
  refine va_get (D := D) (ci := 10) (v := .int 1) (C := RX10) (T := TX10) (N := 81) hx hb hts inX10 hown hK hP 0 rfl rfl 1 (by decide) (hts _ b_1315) (fun _ h9 => h9) rfl dX10_node_66 ?_
  refine lv_iconst (v := 1) hx hb dX10_node_69 (by decide) ?_
  refine lv_isub hx hb dX10_node_70 ?_
  refine k_ti (y := 0) (by decide) ?_
  exact m_i () hx hb hr hlocks rfl trivial (hP.sub [0] rfl) (hD.sub [0] (by decide) rfl) hS (by decide) (by decide) dX10_node_71
set_option maxRecDepth 20000 in
set_option maxHeartbeats 2000000 in
theorem m_node_a (l : Launch) (D : va_G) (E : Nat → ClassId) (sa : Nat → Nat) (a : Nat) (ad : Nat → Nat) (v : Int32) (w : Int32) (h : ¬ ((-1000000 : Int32) ≤ v ∧ v ≤ 1000000)) : KM l yX10_node (.code yX10_node cX10_node 3 (some .int)) 25 821 0 0 D E sa [.ref a, .int v, .int w] [(a, .inr (10, (mfs ad)))] (S := Unit) (fun _ => some (.int 0)) (fun _ => True) (fun _ => [(a, .inr (10, ((mfs ad).set 0 (.int 1))))]) := by
  refine KM.of (by decide) (Nat.le_of_ble_eq_true rfl) ?_
  intro p e s m below meth c A ls hx hb hr hts hml hown hlocks hnm hK hP hD hA hS hZ hl
  have hown : s.vm.findClass RX10 = some m.cls := hown
  have hl : lv_has ls 3 [(0, .ref a), (1, .int v), (2, .int w)] := hl
  refine lv_aload_n hx hb dX10_node_0 rfl (lv_at hl 0 rfl) ?_
  refine lv_iload_n hx hb dX10_node_1 rfl (lv_at hl 1 rfl) ?_
  refine lv_i2l (v := (v : Int32).toInt64) hx hb dX10_node_2 rfl ?_
  refine k_RS (As := [.long ((v : Int32).toInt64)]) (rest := [.ref a])  ⟨hx, hb, hml, hown, hts⟩ (m_size l D E (((v : Int32).toInt64))) b_1578 b_1579 b_88 b_1580 hd_X10_size ⟨⟨by decide, by decide⟩, by decide, by decide⟩ hK hP [] rfl rfl hl.1 (Nat.le_of_ble_eq_true rfl) dX10_node_3 ?_
  refine lv_ldc2 hx hb hown (hts _ b_1605) dX10_node_6 ?_
  refine W.lcmp hx hb dX10_node_9 ?_
  refine lv_if_gt (tgt := 25) hx hb dX10_node_10 (by decide) (fun _ => ?_) (fun h9 => absurd (z_cgt h) h9)
  refine lv_iconst (v := 1) hx hb dX10_node_25 (by decide) ?_
  refine lv_goto (tgt := 43) hx hb dX10_node_26 (by decide) ?_
  refine va_put (D := D) (ci := 10) (v := .int 1) (ty := .int) (C := RX10) (T := TX10) (N := 81) hx hb hts inX10 tyX10 tyX10_ok nmX10 hown hK hP hD hS 0 rfl rfl 0 (by decide) (hts _ b_1314) (fun _ h9 => h9) rfl (by decide +kernel) rfl rfl (Nat.le_of_ble_eq_true rfl) dX10_node_43 (fun H locs hP hD hS => ?_)
  have hP : va_P D k_cl [(a, .inr (10, ((mfs ad).set 0 (.int 1))))] H := hP
  have hD : va_D A [(a, .inr (10, ((mfs ad).set 0 (.int 1))))] := hD
  refine lv_aload_n hx hb dX10_node_46 rfl (lv_at hl 0 rfl) ?_
  refine va_get (D := D) (ci := 10) (v := .int 1) (C := RX10) (T := TX10) (N := 81) hx hb hts inX10 hown hK hP 0 rfl rfl 0 (by decide) (hts _ b_1314) (fun _ h9 => h9) rfl dX10_node_47 ?_
  refine lv_if_le (tgt := 55) hx hb dX10_node_50 (by decide) (fun h9 => absurd h9 (by decide)) (fun _ => ?_)
  refine lv_iconst (v := 0) hx hb dX10_node_53 (by decide) ?_
  exact m_i () hx hb hr hlocks rfl trivial (hP.sub [0] rfl) (hD.sub [0] (by decide) rfl) hS (by decide) (by decide) dX10_node_54
set_option maxRecDepth 20000 in
set_option maxHeartbeats 2000000 in
theorem m_node_b (l : Launch) (D : va_G) (E : Nat → ClassId) (sa : Nat → Nat) (a : Nat) (ad : Nat → Nat) (v : Int32) (w : Int32) (hv : ((-1000000 : Int32) ≤ v ∧ v ≤ 1000000)) (h : ¬ ((-1000000 : Int32) ≤ w ∧ w ≤ 1000000)) : KM l yX10_node (.code yX10_node cX10_node 3 (some .int)) 25 821 0 0 D E sa [.ref a, .int v, .int w] [(a, .inr (10, (mfs ad)))] (S := Unit) (fun _ => some (.int 0)) (fun _ => True) (fun _ => [(a, .inr (10, ((mfs ad).set 0 (.int 1))))]) := by
  refine KM.of (by decide) (Nat.le_of_ble_eq_true rfl) ?_
  intro p e s m below meth c A ls hx hb hr hts hml hown hlocks hnm hK hP hD hA hS hZ hl
  have hown : s.vm.findClass RX10 = some m.cls := hown
  have hl : lv_has ls 3 [(0, .ref a), (1, .int v), (2, .int w)] := hl
  refine lv_aload_n hx hb dX10_node_0 rfl (lv_at hl 0 rfl) ?_
  refine lv_iload_n hx hb dX10_node_1 rfl (lv_at hl 1 rfl) ?_
  refine lv_i2l (v := (v : Int32).toInt64) hx hb dX10_node_2 rfl ?_
  refine k_RS (As := [.long ((v : Int32).toInt64)]) (rest := [.ref a])  ⟨hx, hb, hml, hown, hts⟩ (m_size l D E (((v : Int32).toInt64))) b_1578 b_1579 b_88 b_1580 hd_X10_size ⟨⟨by decide, by decide⟩, by decide, by decide⟩ hK hP [] rfl rfl hl.1 (Nat.le_of_ble_eq_true rfl) dX10_node_3 ?_
  refine lv_ldc2 hx hb hown (hts _ b_1605) dX10_node_6 ?_
  refine W.lcmp hx hb dX10_node_9 ?_
  refine lv_if_gt (tgt := 25) hx hb dX10_node_10 (by decide) (fun h9 => absurd h9 (Int32.not_lt.mpr (z_cle hv))) (fun _ => ?_)
  refine lv_iload_n hx hb dX10_node_13 rfl (lv_at hl 2 rfl) ?_
  refine lv_i2l (v := (w : Int32).toInt64) hx hb dX10_node_14 rfl ?_
  refine k_RS (As := [.long ((w : Int32).toInt64)]) (rest := [.ref a])  ⟨hx, hb, hml, hown, hts⟩ (m_size l D E (((w : Int32).toInt64))) b_1578 b_1579 b_88 b_1580 hd_X10_size ⟨⟨by decide, by decide⟩, by decide, by decide⟩ hK hP [] rfl rfl hl.1 (Nat.le_of_ble_eq_true rfl) dX10_node_15 ?_
  refine lv_ldc2 hx hb hown (hts _ b_1605) dX10_node_18 ?_
  refine W.lcmp hx hb dX10_node_21 ?_
  refine lv_if_le (tgt := 29) hx hb dX10_node_22 (by decide) (fun h9 => absurd h9 (Int32.not_le.mpr (z_cgt h))) (fun _ => ?_)
  refine lv_iconst (v := 1) hx hb dX10_node_25 (by decide) ?_
  refine lv_goto (tgt := 43) hx hb dX10_node_26 (by decide) ?_
  refine va_put (D := D) (ci := 10) (v := .int 1) (ty := .int) (C := RX10) (T := TX10) (N := 81) hx hb hts inX10 tyX10 tyX10_ok nmX10 hown hK hP hD hS 0 rfl rfl 0 (by decide) (hts _ b_1314) (fun _ h9 => h9) rfl (by decide +kernel) rfl rfl (Nat.le_of_ble_eq_true rfl) dX10_node_43 (fun H locs hP hD hS => ?_)
  have hP : va_P D k_cl [(a, .inr (10, ((mfs ad).set 0 (.int 1))))] H := hP
  have hD : va_D A [(a, .inr (10, ((mfs ad).set 0 (.int 1))))] := hD
  refine lv_aload_n hx hb dX10_node_46 rfl (lv_at hl 0 rfl) ?_
  refine va_get (D := D) (ci := 10) (v := .int 1) (C := RX10) (T := TX10) (N := 81) hx hb hts inX10 hown hK hP 0 rfl rfl 0 (by decide) (hts _ b_1314) (fun _ h9 => h9) rfl dX10_node_47 ?_
  refine lv_if_le (tgt := 55) hx hb dX10_node_50 (by decide) (fun h9 => absurd h9 (by decide)) (fun _ => ?_)
  refine lv_iconst (v := 0) hx hb dX10_node_53 (by decide) ?_
  exact m_i () hx hb hr hlocks rfl trivial (hP.sub [0] rfl) (hD.sub [0] (by decide) rfl) hS (by decide) (by decide) dX10_node_54
set_option maxRecDepth 20000 in
set_option maxHeartbeats 2000000 in
theorem m_arc (l : Launch) (D : va_G) (E : Nat → ClassId) (sa : Nat → Nat) (a : Nat) (ad : Nat → Nat) (v0 : Int32) (v1 : Int32) (w : Int64) : KM l yX10_arc (.code yX10_arc cX10_arc 5 (some .int)) 25 821 0 0 D E sa [.ref a, .int v0, .int v1, .long w] [(a, .inr (10, (mfs ad)))] (S := Unit) (fun _ => some (.int 0)) (fun _ => True) (fun _ => [(a, .inr (10, ((mfs ad).set 0 (.int 1))))]) := by
  refine KM.of (by decide) (Nat.le_of_ble_eq_true rfl) ?_
  intro p e s m below meth c A ls hx hb hr hts hml hown hlocks hnm hK hP hD hA hS hZ hl
  have hown : s.vm.findClass RX10 = some m.cls := hown
  have hl : lv_has ls 5 [(0, .ref a), (1, .int v0), (2, .int v1), (3, .long w)] := hl
  refine lv_aload_n hx hb dX10_arc_0 rfl (lv_at hl 0 rfl) ?_
  refine lv_aload_n hx hb dX10_arc_1 rfl (lv_at hl 0 rfl) ?_
  refine lv_iload_n hx hb dX10_arc_2 rfl (lv_at hl 1 rfl) ?_
  refine k_RV (As := [.int v0]) (rest := [.ref a]) (ci := 10) (q0 := 0) ⟨hx, hb, hml, hown, hts⟩ (m_isNode l D E a ad v0) b_1646 b_1648 b_52 b_88 b_1649 ⟨rfl, hd_X10_isNode⟩ ⟨⟨by decide, by decide⟩, by decide, by decide⟩ hK hP [0] rfl rfl rfl rfl hl.1 (Nat.le_of_ble_eq_true rfl) dX10_arc_3 ?_
  refine lv_if_eq (tgt := 17) hx hb dX10_arc_6 (by decide) (fun _ => ?_) (fun h9 => absurd (by decide) h9)
  refine lv_iconst (v := 1) hx hb dX10_arc_17 (by decide) ?_
  refine lv_goto (tgt := 64) hx hb dX10_arc_18 (by decide) ?_
  refine va_put (D := D) (ci := 10) (v := .int 1) (ty := .int) (C := RX10) (T := TX10) (N := 81) hx hb hts inX10 tyX10 tyX10_ok nmX10 hown hK hP hD hS 0 rfl rfl 0 (by decide) (hts _ b_1314) (fun _ h9 => h9) rfl (by decide +kernel) rfl rfl (Nat.le_of_ble_eq_true rfl) dX10_arc_64 (fun H locs hP hD hS => ?_)
  have hP : va_P D k_cl [(a, .inr (10, ((mfs ad).set 0 (.int 1))))] H := hP
  have hD : va_D A [(a, .inr (10, ((mfs ad).set 0 (.int 1))))] := hD
  refine lv_aload_n hx hb dX10_arc_67 rfl (lv_at hl 0 rfl) ?_
  refine va_get (D := D) (ci := 10) (v := .int 1) (C := RX10) (T := TX10) (N := 81) hx hb hts inX10 hown hK hP 0 rfl rfl 0 (by decide) (hts _ b_1314) (fun _ h9 => h9) rfl dX10_arc_68 ?_
  refine lv_if_le (tgt := 76) hx hb dX10_arc_71 (by decide) (fun h9 => absurd h9 (by decide)) (fun _ => ?_)
  refine lv_iconst (v := 0) hx hb dX10_arc_74 (by decide) ?_
  exact m_i () hx hb hr hlocks rfl trivial (hP.sub [0] rfl) (hD.sub [0] (by decide) rfl) hS (by decide) (by decide) dX10_arc_75
set_option maxRecDepth 20000 in
set_option maxHeartbeats 2000000 in
theorem m_weigh (l : Launch) (D : va_G) (E : Nat → ClassId) (sa : Nat → Nat) (a : Nat) (ad : Nat → Nat) (v0 : Int32) (w : Int64) : KM l yX10_weigh (.code yX10_weigh cX10_weigh 6 (some .long)) 25 821 0 0 D E sa [.ref a, .int v0, .long w] [(a, .inr (10, (mfs ad)))] (S := Unit) (fun _ => some (.long 0)) (fun _ => True) (fun _ => [(a, .inr (10, ((mfs ad).set 0 (.int 1))))]) := by
  refine KM.of (by decide) (Nat.le_of_ble_eq_true rfl) ?_
  intro p e s m below meth c A ls hx hb hr hts hml hown hlocks hnm hK hP hD hA hS hZ hl
  have hown : s.vm.findClass RX10 = some m.cls := hown
  have hl : lv_has ls 6 [(0, .ref a), (1, .int v0), (2, .long w)] := hl
  refine lv_aload_n hx hb dX10_weigh_0 rfl (lv_at hl 0 rfl) ?_
  refine lv_aload_n hx hb dX10_weigh_1 rfl (lv_at hl 0 rfl) ?_
  refine lv_iload_n hx hb dX10_weigh_2 rfl (lv_at hl 1 rfl) ?_
  refine k_RV (As := [.int v0]) (rest := [.ref a]) (ci := 10) (q0 := 0) ⟨hx, hb, hml, hown, hts⟩ (m_isArc l D E a ad v0) b_1657 b_1659 b_53 b_88 b_1660 ⟨rfl, hd_X10_isArc⟩ ⟨⟨by decide, by decide⟩, by decide, by decide⟩ hK hP [0] rfl rfl rfl rfl hl.1 (Nat.le_of_ble_eq_true rfl) dX10_weigh_3 ?_
  refine lv_if_ne (tgt := 13) hx hb dX10_weigh_6 (by decide) (fun h9 => absurd (by decide) h9) (fun _ => ?_)
  refine lv_iconst (v := 1) hx hb dX10_weigh_9 (by decide) ?_
  refine lv_goto (tgt := 49) hx hb dX10_weigh_10 (by decide) ?_
  refine va_put (D := D) (ci := 10) (v := .int 1) (ty := .int) (C := RX10) (T := TX10) (N := 81) hx hb hts inX10 tyX10 tyX10_ok nmX10 hown hK hP hD hS 0 rfl rfl 0 (by decide) (hts _ b_1314) (fun _ h9 => h9) rfl (by decide +kernel) rfl rfl (Nat.le_of_ble_eq_true rfl) dX10_weigh_49 (fun H locs hP hD hS => ?_)
  have hP : va_P D k_cl [(a, .inr (10, ((mfs ad).set 0 (.int 1))))] H := hP
  have hD : va_D A [(a, .inr (10, ((mfs ad).set 0 (.int 1))))] := hD
  refine lv_aload_n hx hb dX10_weigh_52 rfl (lv_at hl 0 rfl) ?_
  refine va_get (D := D) (ci := 10) (v := .int 1) (C := RX10) (T := TX10) (N := 81) hx hb hts inX10 hown hK hP 0 rfl rfl 0 (by decide) (hts _ b_1314) (fun _ h9 => h9) rfl dX10_weigh_53 ?_
  refine lv_if_le (tgt := 61) hx hb dX10_weigh_56 (by decide) (fun h9 => absurd h9 (by decide)) (fun _ => ?_)
  refine lv_lconst (v := 0) hx hb dX10_weigh_59 (by decide) ?_
  exact m_l () hx hb hr hlocks rfl trivial (hP.sub [0] rfl) (hD.sub [0] (by decide) rfl) hS (by decide) (by decide) dX10_weigh_60
set_option maxRecDepth 20000 in
set_option maxHeartbeats 2000000 in
theorem m_search (l : Launch) (D : va_G) (E : Nat → ClassId) (sa : Nat → Nat) (a : Nat) (ad : Nat → Nat) (v0 : Int32) : KM l yX10_search (.code yX10_search cX10_search 2 (some .int)) 25 821 0 0 D E sa [.ref a, .int v0] [(a, .inr (10, (mfs ad)))] (S := Unit) (fun _ => some (.int 0)) (fun _ => True) (fun _ => [(a, .inr (10, ((mfs ad).set 0 (.int 1))))]) := by
  refine KM.of (by decide) (Nat.le_of_ble_eq_true rfl) ?_
  intro p e s m below meth c A ls hx hb hr hts hml hown hlocks hnm hK hP hD hA hS hZ hl
  have hown : s.vm.findClass RX10 = some m.cls := hown
  have hl : lv_has ls 2 [(0, .ref a), (1, .int v0)] := hl
  refine lv_aload_n hx hb dX10_search_0 rfl (lv_at hl 0 rfl) ?_
  refine lv_iload_n hx hb dX10_search_1 rfl (lv_at hl 1 rfl) ?_
  refine k_RV (As := [.int v0]) (rest := []) (ci := 10) (q0 := 0) ⟨hx, hb, hml, hown, hts⟩ (m_isNode l D E a ad v0) b_1646 b_1648 b_52 b_88 b_1649 ⟨rfl, hd_X10_isNode⟩ ⟨⟨by decide, by decide⟩, by decide, by decide⟩ hK hP [0] rfl rfl rfl rfl hl.1 (Nat.le_of_ble_eq_true rfl) dX10_search_2 ?_
  refine lv_if_ne (tgt := 14) hx hb dX10_search_5 (by decide) (fun h9 => absurd (by decide) h9) (fun _ => ?_)
  refine lv_aload_n hx hb dX10_search_8 rfl (lv_at hl 0 rfl) ?_
  refine lv_iconst (v := 1) hx hb dX10_search_9 (by decide) ?_
  refine k_MV (As := [.int 1]) (rest := []) (ci := 10) (q0 := 0) (wr := []) ⟨hx, hb, hml, hown, hts⟩ (m_throwsNow l D E sa a ad) b_1705 b_1707 b_57 b_88 b_1708 ⟨rfl, hd_X10_throwsNow⟩ ⟨⟨by decide, by decide⟩, by decide, by decide⟩ hK hP hD hS hA hZ [0] [] rfl rfl (by decide) rfl rfl rfl hl.1 (Nat.le_of_ble_eq_true rfl) dX10_search_10 (fun u_1 H locs hu hP hD hS _ => ?_)
  have hP : va_P D k_cl [(a, .inr (10, ((mfs ad).set 0 (.int 1))))] H := hP
  have hD : va_D A [(a, .inr (10, ((mfs ad).set 0 (.int 1))))] := hD
  refine W.eq (g2 := F0 m 13 ls [.int 0]) rfl ?_
  exact m_i () hx hb hr hlocks rfl trivial (hP.sub [0] rfl) (hD.sub [0] (by decide) rfl) hS (by decide) (by decide) dX10_search_13
set_option maxRecDepth 20000 in
set_option maxHeartbeats 2000000 in
theorem m_goal (l : Launch) (D : va_G) (E : Nat → ClassId) (sa : Nat → Nat) (a : Nat) (ad : Nat → Nat) (v0 : Int32) (v1 : Int32) : KM l yX10_goal (.code yX10_goal cX10_goal 3 (some .int)) 25 821 0 0 D E sa [.ref a, .int v0, .int v1] [(a, .inr (10, (mfs ad)))] (S := Unit) (fun _ => some (.int 0)) (fun _ => True) (fun _ => [(a, .inr (10, ((mfs ad).set 0 (.int 1))))]) := by
  refine KM.of (by decide) (Nat.le_of_ble_eq_true rfl) ?_
  intro p e s m below meth c A ls hx hb hr hts hml hown hlocks hnm hK hP hD hA hS hZ hl
  have hown : s.vm.findClass RX10 = some m.cls := hown
  have hl : lv_has ls 3 [(0, .ref a), (1, .int v0), (2, .int v1)] := hl
  refine lv_aload_n hx hb dX10_goal_0 rfl (lv_at hl 0 rfl) ?_
  refine lv_aload_n hx hb dX10_goal_1 rfl (lv_at hl 0 rfl) ?_
  refine lv_iload_n hx hb dX10_goal_2 rfl (lv_at hl 1 rfl) ?_
  refine k_RV (As := [.int v0]) (rest := [.ref a]) (ci := 10) (q0 := 0) ⟨hx, hb, hml, hown, hts⟩ (m_isNode l D E a ad v0) b_1646 b_1648 b_52 b_88 b_1649 ⟨rfl, hd_X10_isNode⟩ ⟨⟨by decide, by decide⟩, by decide, by decide⟩ hK hP [0] rfl rfl rfl rfl hl.1 (Nat.le_of_ble_eq_true rfl) dX10_goal_3 ?_
  refine lv_if_eq (tgt := 17) hx hb dX10_goal_6 (by decide) (fun _ => ?_) (fun h9 => absurd (by decide) h9)
  refine lv_iconst (v := 1) hx hb dX10_goal_17 (by decide) ?_
  refine lv_goto (tgt := 33) hx hb dX10_goal_18 (by decide) ?_
  refine va_put (D := D) (ci := 10) (v := .int 1) (ty := .int) (C := RX10) (T := TX10) (N := 81) hx hb hts inX10 tyX10 tyX10_ok nmX10 hown hK hP hD hS 0 rfl rfl 0 (by decide) (hts _ b_1314) (fun _ h9 => h9) rfl (by decide +kernel) rfl rfl (Nat.le_of_ble_eq_true rfl) dX10_goal_33 (fun H locs hP hD hS => ?_)
  have hP : va_P D k_cl [(a, .inr (10, ((mfs ad).set 0 (.int 1))))] H := hP
  have hD : va_D A [(a, .inr (10, ((mfs ad).set 0 (.int 1))))] := hD
  refine lv_aload_n hx hb dX10_goal_36 rfl (lv_at hl 0 rfl) ?_
  refine va_get (D := D) (ci := 10) (v := .int 1) (C := RX10) (T := TX10) (N := 81) hx hb hts inX10 hown hK hP 0 rfl rfl 0 (by decide) (hts _ b_1314) (fun _ h9 => h9) rfl dX10_goal_37 ?_
  refine lv_if_le (tgt := 45) hx hb dX10_goal_40 (by decide) (fun h9 => absurd h9 (by decide)) (fun _ => ?_)
  refine lv_iconst (v := 0) hx hb dX10_goal_43 (by decide) ?_
  exact m_i () hx hb hr hlocks rfl trivial (hP.sub [0] rfl) (hD.sub [0] (by decide) rfl) hS (by decide) (by decide) dX10_goal_44
set_option maxRecDepth 20000 in
set_option maxHeartbeats 2000000 in
theorem m_both (l : Launch) (D : va_G) (E : Nat → ClassId) (sa : Nat → Nat) (a : Nat) (ad : Nat → Nat) (v0 : Int32) (v1 : Int32) : KM l yX10_both (.code yX10_both cX10_both 16 (some .int)) 25 821 0 0 D E sa [.ref a, .int v0, .int v1] [(a, .inr (10, (mfs ad)))] (S := Unit) (fun _ => some (.int 0)) (fun _ => True) (fun _ => [(a, .inr (10, ((mfs ad).set 0 (.int 1))))]) := by
  refine KM.of (by decide) (Nat.le_of_ble_eq_true rfl) ?_
  intro p e s m below meth c A ls hx hb hr hts hml hown hlocks hnm hK hP hD hA hS hZ hl
  have hown : s.vm.findClass RX10 = some m.cls := hown
  have hl : lv_has ls 16 [(0, .ref a), (1, .int v0), (2, .int v1)] := hl
  refine lv_aload_n hx hb dX10_both_0 rfl (lv_at hl 0 rfl) ?_
  refine lv_iload_n hx hb dX10_both_1 rfl (lv_at hl 1 rfl) ?_
  refine k_RV (As := [.int v0]) (rest := []) (ci := 10) (q0 := 0) ⟨hx, hb, hml, hown, hts⟩ (m_isNode l D E a ad v0) b_1646 b_1648 b_52 b_88 b_1649 ⟨rfl, hd_X10_isNode⟩ ⟨⟨by decide, by decide⟩, by decide, by decide⟩ hK hP [0] rfl rfl rfl rfl hl.1 (Nat.le_of_ble_eq_true rfl) dX10_both_2 ?_
  refine lv_if_eq (tgt := 16) hx hb dX10_both_5 (by decide) (fun _ => ?_) (fun h9 => absurd (by decide) h9)
  refine lv_aload_n hx hb dX10_both_16 rfl (lv_at hl 0 rfl) ?_
  refine lv_iconst (v := 1) hx hb dX10_both_17 (by decide) ?_
  refine k_MV (As := [.int 1]) (rest := []) (ci := 10) (q0 := 0) (wr := []) ⟨hx, hb, hml, hown, hts⟩ (m_throwsNow l D E sa a ad) b_1705 b_1707 b_57 b_88 b_1708 ⟨rfl, hd_X10_throwsNow⟩ ⟨⟨by decide, by decide⟩, by decide, by decide⟩ hK hP hD hS hA hZ [0] [] rfl rfl (by decide) rfl rfl rfl hl.1 (Nat.le_of_ble_eq_true rfl) dX10_both_18 (fun u_1 H locs hu hP hD hS _ => ?_)
  have hP : va_P D k_cl [(a, .inr (10, ((mfs ad).set 0 (.int 1))))] H := hP
  have hD : va_D A [(a, .inr (10, ((mfs ad).set 0 (.int 1))))] := hD
  refine W.eq (g2 := F0 m 21 ls [.int 0]) rfl ?_
  exact m_i () hx hb hr hlocks rfl trivial (hP.sub [0] rfl) (hD.sub [0] (by decide) rfl) hS (by decide) (by decide) dX10_both_21
set_option maxRecDepth 20000 in
set_option maxHeartbeats 2000000 in
theorem m_landmarked (l : Launch) (D : va_G) (E : Nat → ClassId) (sa : Nat → Nat) (a : Nat) (ad : Nat → Nat) (v0 : Int32) (v1 : Int32) : KM l yX10_landmarked (.code yX10_landmarked cX10_landmarked 4 (some .int)) 25 821 0 0 D E sa [.ref a, .int v0, .int v1] [(a, .inr (10, (mfs ad)))] (S := Unit) (fun _ => some (.int 0)) (fun _ => True) (fun _ => [(a, .inr (10, ((mfs ad).set 0 (.int 1))))]) := by
  refine KM.of (by decide) (Nat.le_of_ble_eq_true rfl) ?_
  intro p e s m below meth c A ls hx hb hr hts hml hown hlocks hnm hK hP hD hA hS hZ hl
  have hown : s.vm.findClass RX10 = some m.cls := hown
  have hl : lv_has ls 4 [(0, .ref a), (1, .int v0), (2, .int v1)] := hl
  refine lv_aload_n hx hb dX10_landmarked_0 rfl (lv_at hl 0 rfl) ?_
  refine lv_aload_n hx hb dX10_landmarked_1 rfl (lv_at hl 0 rfl) ?_
  refine lv_iload_n hx hb dX10_landmarked_2 rfl (lv_at hl 1 rfl) ?_
  refine k_RV (As := [.int v0]) (rest := [.ref a]) (ci := 10) (q0 := 0) ⟨hx, hb, hml, hown, hts⟩ (m_isNode l D E a ad v0) b_1646 b_1648 b_52 b_88 b_1649 ⟨rfl, hd_X10_isNode⟩ ⟨⟨by decide, by decide⟩, by decide, by decide⟩ hK hP [0] rfl rfl rfl rfl hl.1 (Nat.le_of_ble_eq_true rfl) dX10_landmarked_3 ?_
  refine lv_if_eq (tgt := 17) hx hb dX10_landmarked_6 (by decide) (fun _ => ?_) (fun h9 => absurd (by decide) h9)
  refine lv_iconst (v := 1) hx hb dX10_landmarked_17 (by decide) ?_
  refine lv_goto (tgt := 33) hx hb dX10_landmarked_18 (by decide) ?_
  refine va_put (D := D) (ci := 10) (v := .int 1) (ty := .int) (C := RX10) (T := TX10) (N := 81) hx hb hts inX10 tyX10 tyX10_ok nmX10 hown hK hP hD hS 0 rfl rfl 0 (by decide) (hts _ b_1314) (fun _ h9 => h9) rfl (by decide +kernel) rfl rfl (Nat.le_of_ble_eq_true rfl) dX10_landmarked_33 (fun H locs hP hD hS => ?_)
  have hP : va_P D k_cl [(a, .inr (10, ((mfs ad).set 0 (.int 1))))] H := hP
  have hD : va_D A [(a, .inr (10, ((mfs ad).set 0 (.int 1))))] := hD
  refine lv_aload_n hx hb dX10_landmarked_36 rfl (lv_at hl 0 rfl) ?_
  refine va_get (D := D) (ci := 10) (v := .int 1) (C := RX10) (T := TX10) (N := 81) hx hb hts inX10 hown hK hP 0 rfl rfl 0 (by decide) (hts _ b_1314) (fun _ h9 => h9) rfl dX10_landmarked_37 ?_
  refine lv_if_le (tgt := 45) hx hb dX10_landmarked_40 (by decide) (fun h9 => absurd h9 (by decide)) (fun _ => ?_)
  refine lv_iconst (v := 0) hx hb dX10_landmarked_43 (by decide) ?_
  exact m_i () hx hb hr hlocks rfl trivial (hP.sub [0] rfl) (hD.sub [0] (by decide) rfl) hS (by decide) (by decide) dX10_landmarked_44
set_option maxRecDepth 20000 in
set_option maxHeartbeats 2000000 in
theorem m_potential (l : Launch) (D : va_G) (E : Nat → ClassId) (sa : Nat → Nat) (a : Nat) (ad : Nat → Nat) (v0 : Int32) (w : Int64) : KM l yX10_potential (.code yX10_potential cX10_potential 6 (some .long)) 25 821 0 0 D E sa [.ref a, .int v0, .long w] [(a, .inr (10, (mfs ad)))] (S := Unit) (fun _ => some (.long 0)) (fun _ => True) (fun _ => [(a, .inr (10, ((mfs ad).set 0 (.int 1))))]) := by
  refine KM.of (by decide) (Nat.le_of_ble_eq_true rfl) ?_
  intro p e s m below meth c A ls hx hb hr hts hml hown hlocks hnm hK hP hD hA hS hZ hl
  have hown : s.vm.findClass RX10 = some m.cls := hown
  have hl : lv_has ls 6 [(0, .ref a), (1, .int v0), (2, .long w)] := hl
  refine lv_aload_n hx hb dX10_potential_0 rfl (lv_at hl 0 rfl) ?_
  refine lv_aload_n hx hb dX10_potential_1 rfl (lv_at hl 0 rfl) ?_
  refine lv_iload_n hx hb dX10_potential_2 rfl (lv_at hl 1 rfl) ?_
  refine k_RV (As := [.int v0]) (rest := [.ref a]) (ci := 10) (q0 := 0) ⟨hx, hb, hml, hown, hts⟩ (m_isNode l D E a ad v0) b_1646 b_1648 b_52 b_88 b_1649 ⟨rfl, hd_X10_isNode⟩ ⟨⟨by decide, by decide⟩, by decide, by decide⟩ hK hP [0] rfl rfl rfl rfl hl.1 (Nat.le_of_ble_eq_true rfl) dX10_potential_3 ?_
  refine lv_if_ne (tgt := 13) hx hb dX10_potential_6 (by decide) (fun h9 => absurd (by decide) h9) (fun _ => ?_)
  refine lv_iconst (v := 1) hx hb dX10_potential_9 (by decide) ?_
  refine lv_goto (tgt := 64) hx hb dX10_potential_10 (by decide) ?_
  refine va_put (D := D) (ci := 10) (v := .int 1) (ty := .int) (C := RX10) (T := TX10) (N := 81) hx hb hts inX10 tyX10 tyX10_ok nmX10 hown hK hP hD hS 0 rfl rfl 0 (by decide) (hts _ b_1314) (fun _ h9 => h9) rfl (by decide +kernel) rfl rfl (Nat.le_of_ble_eq_true rfl) dX10_potential_64 (fun H locs hP hD hS => ?_)
  have hP : va_P D k_cl [(a, .inr (10, ((mfs ad).set 0 (.int 1))))] H := hP
  have hD : va_D A [(a, .inr (10, ((mfs ad).set 0 (.int 1))))] := hD
  refine lv_aload_n hx hb dX10_potential_67 rfl (lv_at hl 0 rfl) ?_
  refine va_get (D := D) (ci := 10) (v := .int 1) (C := RX10) (T := TX10) (N := 81) hx hb hts inX10 hown hK hP 0 rfl rfl 0 (by decide) (hts _ b_1314) (fun _ h9 => h9) rfl dX10_potential_68 ?_
  refine lv_if_le (tgt := 76) hx hb dX10_potential_71 (by decide) (fun h9 => absurd h9 (by decide)) (fun _ => ?_)
  refine lv_lconst (v := 0) hx hb dX10_potential_74 (by decide) ?_
  exact m_l () hx hb hr hlocks rfl trivial (hP.sub [0] rfl) (hD.sub [0] (by decide) rfl) hS (by decide) (by decide) dX10_potential_75
set_option maxRecDepth 20000 in
set_option maxHeartbeats 2000000 in
theorem m_straight (l : Launch) (D : va_G) (E : Nat → ClassId) (sa : Nat → Nat) (a : Nat) (ad : Nat → Nat) (v0 : Int32) (v1 : Int32) : KM l yX10_straight (.code yX10_straight cX10_straight 4 (some .int)) 25 821 0 0 D E sa [.ref a, .int v0, .int v1] [(a, .inr (10, (mfs ad)))] (S := Unit) (fun _ => some (.int 0)) (fun _ => True) (fun _ => [(a, .inr (10, ((mfs ad).set 0 (.int 1))))]) := by
  refine KM.of (by decide) (Nat.le_of_ble_eq_true rfl) ?_
  intro p e s m below meth c A ls hx hb hr hts hml hown hlocks hnm hK hP hD hA hS hZ hl
  have hown : s.vm.findClass RX10 = some m.cls := hown
  have hl : lv_has ls 4 [(0, .ref a), (1, .int v0), (2, .int v1)] := hl
  refine lv_aload_n hx hb dX10_straight_0 rfl (lv_at hl 0 rfl) ?_
  refine lv_aload_n hx hb dX10_straight_1 rfl (lv_at hl 0 rfl) ?_
  refine lv_iload_n hx hb dX10_straight_2 rfl (lv_at hl 1 rfl) ?_
  refine k_RV (As := [.int v0]) (rest := [.ref a]) (ci := 10) (q0 := 0) ⟨hx, hb, hml, hown, hts⟩ (m_isNode l D E a ad v0) b_1646 b_1648 b_52 b_88 b_1649 ⟨rfl, hd_X10_isNode⟩ ⟨⟨by decide, by decide⟩, by decide, by decide⟩ hK hP [0] rfl rfl rfl rfl hl.1 (Nat.le_of_ble_eq_true rfl) dX10_straight_3 ?_
  refine lv_if_ne (tgt := 13) hx hb dX10_straight_6 (by decide) (fun h9 => absurd (by decide) h9) (fun _ => ?_)
  refine lv_iconst (v := 1) hx hb dX10_straight_9 (by decide) ?_
  refine lv_goto (tgt := 29) hx hb dX10_straight_10 (by decide) ?_
  refine va_put (D := D) (ci := 10) (v := .int 1) (ty := .int) (C := RX10) (T := TX10) (N := 81) hx hb hts inX10 tyX10 tyX10_ok nmX10 hown hK hP hD hS 0 rfl rfl 0 (by decide) (hts _ b_1314) (fun _ h9 => h9) rfl (by decide +kernel) rfl rfl (Nat.le_of_ble_eq_true rfl) dX10_straight_29 (fun H locs hP hD hS => ?_)
  have hP : va_P D k_cl [(a, .inr (10, ((mfs ad).set 0 (.int 1))))] H := hP
  have hD : va_D A [(a, .inr (10, ((mfs ad).set 0 (.int 1))))] := hD
  refine lv_aload_n hx hb dX10_straight_32 rfl (lv_at hl 0 rfl) ?_
  refine va_get (D := D) (ci := 10) (v := .int 1) (C := RX10) (T := TX10) (N := 81) hx hb hts inX10 hown hK hP 0 rfl rfl 0 (by decide) (hts _ b_1314) (fun _ h9 => h9) rfl dX10_straight_33 ?_
  refine lv_if_le (tgt := 41) hx hb dX10_straight_36 (by decide) (fun h9 => absurd h9 (by decide)) (fun _ => ?_)
  refine lv_iconst (v := 0) hx hb dX10_straight_39 (by decide) ?_
  exact m_i () hx hb hr hlocks rfl trivial (hP.sub [0] rfl) (hD.sub [0] (by decide) rfl) hS (by decide) (by decide) dX10_straight_40
set_option maxRecDepth 20000 in
set_option maxHeartbeats 2000000 in
theorem m_landmark (l : Launch) (D : va_G) (E : Nat → ClassId) (sa : Nat → Nat) (a : Nat) (ad : Nat → Nat) (v0 : Int32) : KM l yX10_landmark (.code yX10_landmark cX10_landmark 4 (some .int)) 25 821 0 0 D E sa [.ref a, .int v0] [(a, .inr (10, (mfs ad)))] (S := Unit) (fun _ => some (.int 0)) (fun _ => True) (fun _ => [(a, .inr (10, ((mfs ad).set 0 (.int 1))))]) := by
  refine KM.of (by decide) (Nat.le_of_ble_eq_true rfl) ?_
  intro p e s m below meth c A ls hx hb hr hts hml hown hlocks hnm hK hP hD hA hS hZ hl
  have hown : s.vm.findClass RX10 = some m.cls := hown
  have hl : lv_has ls 4 [(0, .ref a), (1, .int v0)] := hl
  refine lv_iconst (v := 0) hx hb dX10_landmark_0 (by decide) ?_
  refine lv_istore_n (lv' := [(2, .int 0), (0, .ref a), (1, .int v0)]) hx hb dX10_landmark_1 rfl hl (by decide) rfl (fun ls hl => ?_)
  refine lv_iconst (v := 0) hx hb dX10_landmark_2 (by decide) ?_
  refine lv_istore_n (lv' := [(3, .int 0), (2, .int 0), (0, .ref a), (1, .int v0)]) hx hb dX10_landmark_3 rfl hl (by decide) rfl (fun ls hl => ?_)
  refine lv_iload_n hx hb dX10_landmark_4 rfl (lv_at hl 0 rfl) ?_
  refine lv_aload_n hx hb dX10_landmark_5 rfl (lv_at hl 2 rfl) ?_
  refine va_get (D := D) (ci := 10) (v := .int 0) (C := RX10) (T := TX10) (N := 81) hx hb hts inX10 hown hK hP 0 rfl rfl 10 (by decide) (hts _ b_1324) (fun _ h9 => h9) rfl dX10_landmark_6 ?_
  refine lv_icmp_ge (tgt := 38) hx hb dX10_landmark_9 (by decide) (fun _ => ?_) (fun h9 => absurd (by decide) h9)
  refine lv_aload_n hx hb dX10_landmark_38 rfl (lv_at hl 2 rfl) ?_
  refine lv_aload_n hx hb dX10_landmark_39 rfl (lv_at hl 2 rfl) ?_
  refine lv_iload_n hx hb dX10_landmark_40 rfl (lv_at hl 3 rfl) ?_
  refine k_RV (As := [.int v0]) (rest := [.ref a]) (ci := 10) (q0 := 0) ⟨hx, hb, hml, hown, hts⟩ (m_isNode l D E a ad v0) b_1646 b_1648 b_52 b_88 b_1649 ⟨rfl, hd_X10_isNode⟩ ⟨⟨by decide, by decide⟩, by decide, by decide⟩ hK hP [0] rfl rfl rfl rfl hl.1 (Nat.le_of_ble_eq_true rfl) dX10_landmark_41 ?_
  refine lv_if_ne (tgt := 51) hx hb dX10_landmark_44 (by decide) (fun h9 => absurd (by decide) h9) (fun _ => ?_)
  refine lv_iconst (v := 1) hx hb dX10_landmark_47 (by decide) ?_
  refine lv_goto (tgt := 72) hx hb dX10_landmark_48 (by decide) ?_
  refine va_put (D := D) (ci := 10) (v := .int 1) (ty := .int) (C := RX10) (T := TX10) (N := 81) hx hb hts inX10 tyX10 tyX10_ok nmX10 hown hK hP hD hS 0 rfl rfl 0 (by decide) (hts _ b_1314) (fun _ h9 => h9) rfl (by decide +kernel) rfl rfl (Nat.le_of_ble_eq_true rfl) dX10_landmark_72 (fun H locs hP hD hS => ?_)
  have hP : va_P D k_cl [(a, .inr (10, ((mfs ad).set 0 (.int 1))))] H := hP
  have hD : va_D A [(a, .inr (10, ((mfs ad).set 0 (.int 1))))] := hD
  refine lv_aload_n hx hb dX10_landmark_75 rfl (lv_at hl 2 rfl) ?_
  refine va_get (D := D) (ci := 10) (v := .int 1) (C := RX10) (T := TX10) (N := 81) hx hb hts inX10 hown hK hP 0 rfl rfl 0 (by decide) (hts _ b_1314) (fun _ h9 => h9) rfl dX10_landmark_76 ?_
  refine lv_if_le (tgt := 84) hx hb dX10_landmark_79 (by decide) (fun h9 => absurd h9 (by decide)) (fun _ => ?_)
  refine lv_iconst (v := 0) hx hb dX10_landmark_82 (by decide) ?_
  exact m_i () hx hb hr hlocks rfl trivial (hP.sub [0] rfl) (hD.sub [0] (by decide) rfl) hS (by decide) (by decide) dX10_landmark_83
set_option maxRecDepth 20000 in
set_option maxHeartbeats 2000000 in
theorem m_order (l : Launch) (D : va_G) (E : Nat → ClassId) (sa : Nat → Nat) (a : Nat) (ad : Nat → Nat) (v0 : Int32) : KM l yX10_order (.code yX10_order cX10_order 4 (some .int)) 25 821 0 0 D E sa [.ref a, .int v0] [(a, .inr (10, (mfs ad)))] (S := Unit) (fun _ => some (.int 0)) (fun _ => True) (fun _ => [(a, .inr (10, ((mfs ad).set 0 (.int 1))))]) := by
  refine KM.of (by decide) (Nat.le_of_ble_eq_true rfl) ?_
  intro p e s m below meth c A ls hx hb hr hts hml hown hlocks hnm hK hP hD hA hS hZ hl
  have hown : s.vm.findClass RX10 = some m.cls := hown
  have hl : lv_has ls 4 [(0, .ref a), (1, .int v0)] := hl
  refine lv_iconst (v := 0) hx hb dX10_order_0 (by decide) ?_
  refine lv_istore_n (lv' := [(2, .int 0), (0, .ref a), (1, .int v0)]) hx hb dX10_order_1 rfl hl (by decide) rfl (fun ls hl => ?_)
  refine lv_iconst (v := 0) hx hb dX10_order_2 (by decide) ?_
  refine lv_istore_n (lv' := [(3, .int 0), (2, .int 0), (0, .ref a), (1, .int v0)]) hx hb dX10_order_3 rfl hl (by decide) rfl (fun ls hl => ?_)
  refine lv_iload_n hx hb dX10_order_4 rfl (lv_at hl 0 rfl) ?_
  refine lv_aload_n hx hb dX10_order_5 rfl (lv_at hl 2 rfl) ?_
  refine va_get (D := D) (ci := 10) (v := .int 0) (C := RX10) (T := TX10) (N := 81) hx hb hts inX10 hown hK hP 0 rfl rfl 12 (by decide) (hts _ b_1326) (fun _ h9 => h9) rfl dX10_order_6 ?_
  refine lv_icmp_ge (tgt := 38) hx hb dX10_order_9 (by decide) (fun _ => ?_) (fun h9 => absurd (by decide) h9)
  refine lv_aload_n hx hb dX10_order_38 rfl (lv_at hl 2 rfl) ?_
  refine lv_aload_n hx hb dX10_order_39 rfl (lv_at hl 2 rfl) ?_
  refine lv_iload_n hx hb dX10_order_40 rfl (lv_at hl 3 rfl) ?_
  refine k_RV (As := [.int v0]) (rest := [.ref a]) (ci := 10) (q0 := 0) ⟨hx, hb, hml, hown, hts⟩ (m_isNode l D E a ad v0) b_1646 b_1648 b_52 b_88 b_1649 ⟨rfl, hd_X10_isNode⟩ ⟨⟨by decide, by decide⟩, by decide, by decide⟩ hK hP [0] rfl rfl rfl rfl hl.1 (Nat.le_of_ble_eq_true rfl) dX10_order_41 ?_
  refine lv_if_ne (tgt := 51) hx hb dX10_order_44 (by decide) (fun h9 => absurd (by decide) h9) (fun _ => ?_)
  refine lv_iconst (v := 1) hx hb dX10_order_47 (by decide) ?_
  refine lv_goto (tgt := 60) hx hb dX10_order_48 (by decide) ?_
  refine va_put (D := D) (ci := 10) (v := .int 1) (ty := .int) (C := RX10) (T := TX10) (N := 81) hx hb hts inX10 tyX10 tyX10_ok nmX10 hown hK hP hD hS 0 rfl rfl 0 (by decide) (hts _ b_1314) (fun _ h9 => h9) rfl (by decide +kernel) rfl rfl (Nat.le_of_ble_eq_true rfl) dX10_order_60 (fun H locs hP hD hS => ?_)
  have hP : va_P D k_cl [(a, .inr (10, ((mfs ad).set 0 (.int 1))))] H := hP
  have hD : va_D A [(a, .inr (10, ((mfs ad).set 0 (.int 1))))] := hD
  refine lv_aload_n hx hb dX10_order_63 rfl (lv_at hl 2 rfl) ?_
  refine va_get (D := D) (ci := 10) (v := .int 1) (C := RX10) (T := TX10) (N := 81) hx hb hts inX10 hown hK hP 0 rfl rfl 0 (by decide) (hts _ b_1314) (fun _ h9 => h9) rfl dX10_order_64 ?_
  refine lv_if_le (tgt := 72) hx hb dX10_order_67 (by decide) (fun h9 => absurd h9 (by decide)) (fun _ => ?_)
  refine lv_iconst (v := 0) hx hb dX10_order_70 (by decide) ?_
  exact m_i () hx hb hr hlocks rfl trivial (hP.sub [0] rfl) (hD.sub [0] (by decide) rfl) hS (by decide) (by decide) dX10_order_71
set_option maxRecDepth 20000 in
set_option maxHeartbeats 2000000 in
theorem m_query (l : Launch) (D : va_G) (E : Nat → ClassId) (sa : Nat → Nat) (a : Nat) (ad : Nat → Nat) (v0 : Int32) (v1 : Int32) : KM l yX10_query (.code yX10_query cX10_query 5 (some .int)) 25 821 0 0 D E sa [.ref a, .int v0, .int v1] [(a, .inr (10, (mfs ad)))] (S := Unit) (fun _ => some (.int 0)) (fun _ => True) (fun _ => [(a, .inr (10, ((mfs ad).set 0 (.int 1))))]) := by
  refine KM.of (by decide) (Nat.le_of_ble_eq_true rfl) ?_
  intro p e s m below meth c A ls hx hb hr hts hml hown hlocks hnm hK hP hD hA hS hZ hl
  have hown : s.vm.findClass RX10 = some m.cls := hown
  have hl : lv_has ls 5 [(0, .ref a), (1, .int v0), (2, .int v1)] := hl
  refine lv_aload_n hx hb dX10_query_0 rfl (lv_at hl 0 rfl) ?_
  refine lv_aload_n hx hb dX10_query_1 rfl (lv_at hl 0 rfl) ?_
  refine lv_iload_n hx hb dX10_query_2 rfl (lv_at hl 1 rfl) ?_
  refine k_RV (As := [.int v0]) (rest := [.ref a]) (ci := 10) (q0 := 0) ⟨hx, hb, hml, hown, hts⟩ (m_isNode l D E a ad v0) b_1646 b_1648 b_52 b_88 b_1649 ⟨rfl, hd_X10_isNode⟩ ⟨⟨by decide, by decide⟩, by decide, by decide⟩ hK hP [0] rfl rfl rfl rfl hl.1 (Nat.le_of_ble_eq_true rfl) dX10_query_3 ?_
  refine lv_if_eq (tgt := 17) hx hb dX10_query_6 (by decide) (fun _ => ?_) (fun h9 => absurd (by decide) h9)
  refine lv_iconst (v := 1) hx hb dX10_query_17 (by decide) ?_
  refine lv_goto (tgt := 33) hx hb dX10_query_18 (by decide) ?_
  refine va_put (D := D) (ci := 10) (v := .int 1) (ty := .int) (C := RX10) (T := TX10) (N := 81) hx hb hts inX10 tyX10 tyX10_ok nmX10 hown hK hP hD hS 0 rfl rfl 0 (by decide) (hts _ b_1314) (fun _ h9 => h9) rfl (by decide +kernel) rfl rfl (Nat.le_of_ble_eq_true rfl) dX10_query_33 (fun H locs hP hD hS => ?_)
  have hP : va_P D k_cl [(a, .inr (10, ((mfs ad).set 0 (.int 1))))] H := hP
  have hD : va_D A [(a, .inr (10, ((mfs ad).set 0 (.int 1))))] := hD
  refine lv_aload_n hx hb dX10_query_36 rfl (lv_at hl 0 rfl) ?_
  refine va_get (D := D) (ci := 10) (v := .int 1) (C := RX10) (T := TX10) (N := 81) hx hb hts inX10 hown hK hP 0 rfl rfl 0 (by decide) (hts _ b_1314) (fun _ h9 => h9) rfl dX10_query_37 ?_
  refine lv_if_le (tgt := 45) hx hb dX10_query_40 (by decide) (fun h9 => absurd h9 (by decide)) (fun _ => ?_)
  refine lv_iconst (v := 0) hx hb dX10_query_43 (by decide) ?_
  exact m_i () hx hb hr hlocks rfl trivial (hP.sub [0] rfl) (hD.sub [0] (by decide) rfl) hS (by decide) (by decide) dX10_query_44
set_option maxRecDepth 20000 in
set_option maxHeartbeats 2000000 in
theorem m_about (l : Launch) (D : va_G) (E : Nat → ClassId) (sa : Nat → Nat) (a : Nat) (ad : Nat → Nat) (k : Int32) (w : Int32) : KM l yX10_about (.code yX10_about cX10_about 5 (some .int)) 25 821 0 0 D E sa [.ref a, .int k, .int w] [(a, .inr (10, (mfs ad)))] (S := Unit) (fun _ => some (.int (-1))) (fun _ => True) (fun _ => [(a, .inr (10, (mfs ad)))]) := by
  refine KM.of (by decide) (Nat.le_of_ble_eq_true rfl) ?_
  intro p e s m below meth c A ls hx hb hr hts hml hown hlocks hnm hK hP hD hA hS hZ hl
  have hown : s.vm.findClass RX10 = some m.cls := hown
  have hl : lv_has ls 5 [(0, .ref a), (1, .int k), (2, .int w)] := hl
  refine lv_aload_n hx hb dX10_about_0 rfl (lv_at hl 0 rfl) ?_
  refine lv_iconst (v := 0) hx hb dX10_about_1 (by decide) ?_
  refine va_put (D := D) (ci := 10) (v := .int 0) (ty := .int) (C := RX10) (T := TX10) (N := 81) hx hb hts inX10 tyX10 tyX10_ok nmX10 hown hK hP hD hS 0 rfl rfl 0 (by decide) (hts _ b_1314) (fun _ h9 => h9) rfl (by decide +kernel) rfl rfl (Nat.le_of_ble_eq_true rfl) dX10_about_2 (fun H locs hP hD hS => ?_)
  have hP : va_P D k_cl [(a, .inr (10, (mfs ad)))] H := hP
  have hD : va_D A [(a, .inr (10, (mfs ad)))] := hD
  refine lv_iload_n hx hb dX10_about_5 rfl (lv_at hl 2 rfl) ?_
  refine lv_if_eq (tgt := 14) hx hb dX10_about_6 (by decide) (fun c1 => ?_) (fun c1 => ?_)
  · refine lv_aload_n hx hb dX10_about_14 rfl (lv_at hl 0 rfl) ?_
    refine lv_iload_n hx hb dX10_about_15 rfl (lv_at hl 1 rfl) ?_
    refine k_RV (As := [.int k]) (rest := []) (ci := 10) (q0 := 0) ⟨hx, hb, hml, hown, hts⟩ (m_isArc l D E a ad k) b_1657 b_1659 b_53 b_88 b_1660 ⟨rfl, hd_X10_isArc⟩ ⟨⟨by decide, by decide⟩, by decide, by decide⟩ hK hP [0] rfl rfl rfl rfl hl.1 (Nat.le_of_ble_eq_true rfl) dX10_about_16 ?_
    refine lv_if_ne (tgt := 26) hx hb dX10_about_19 (by decide) (fun h9 => absurd (by decide) h9) (fun _ => ?_)
    refine lv_iconst (v := -1) hx hb dX10_about_22 (by decide) ?_
    refine lv_goto (tgt := 45) hx hb dX10_about_23 (by decide) ?_
    exact m_i () hx hb hr hlocks rfl trivial (hP.sub [0] rfl) (hD.sub [0] (by decide) rfl) hS (by decide) (by decide) dX10_about_45
  · refine lv_iload_n hx hb dX10_about_9 rfl (lv_at hl 2 rfl) ?_
    refine lv_iconst (v := 1) hx hb dX10_about_10 (by decide) ?_
    refine lv_icmp_ne (tgt := 46) hx hb dX10_about_11 (by decide) (fun c2 => ?_) (fun c2 => ?_)
    · refine lv_aload_n hx hb dX10_about_46 rfl (lv_at hl 0 rfl) ?_
      refine lv_iload_n hx hb dX10_about_47 rfl (lv_at hl 1 rfl) ?_
      refine k_RV (As := [.int k]) (rest := []) (ci := 10) (q0 := 0) ⟨hx, hb, hml, hown, hts⟩ (m_isNode l D E a ad k) b_1646 b_1648 b_52 b_88 b_1649 ⟨rfl, hd_X10_isNode⟩ ⟨⟨by decide, by decide⟩, by decide, by decide⟩ hK hP [0] rfl rfl rfl rfl hl.1 (Nat.le_of_ble_eq_true rfl) dX10_about_48 ?_
      refine lv_if_ne (tgt := 56) hx hb dX10_about_51 (by decide) (fun h9 => absurd (by decide) h9) (fun _ => ?_)
      refine lv_iconst (v := -1) hx hb dX10_about_54 (by decide) ?_
      exact m_i () hx hb hr hlocks rfl trivial (hP.sub [0] rfl) (hD.sub [0] (by decide) rfl) hS (by decide) (by decide) dX10_about_55
    · refine lv_aload_n hx hb dX10_about_14 rfl (lv_at hl 0 rfl) ?_
      refine lv_iload_n hx hb dX10_about_15 rfl (lv_at hl 1 rfl) ?_
      refine k_RV (As := [.int k]) (rest := []) (ci := 10) (q0 := 0) ⟨hx, hb, hml, hown, hts⟩ (m_isArc l D E a ad k) b_1657 b_1659 b_53 b_88 b_1660 ⟨rfl, hd_X10_isArc⟩ ⟨⟨by decide, by decide⟩, by decide, by decide⟩ hK hP [0] rfl rfl rfl rfl hl.1 (Nat.le_of_ble_eq_true rfl) dX10_about_16 ?_
      refine lv_if_ne (tgt := 26) hx hb dX10_about_19 (by decide) (fun h9 => absurd (by decide) h9) (fun _ => ?_)
      refine lv_iconst (v := -1) hx hb dX10_about_22 (by decide) ?_
      refine lv_goto (tgt := 45) hx hb dX10_about_23 (by decide) ?_
      exact m_i () hx hb hr hlocks rfl trivial (hP.sub [0] rfl) (hD.sub [0] (by decide) rfl) hS (by decide) (by decide) dX10_about_45
set_option maxRecDepth 20000 in
set_option maxHeartbeats 2000000 in
theorem m_weight (l : Launch) (D : va_G) (E : Nat → ClassId) (sa : Nat → Nat) (a : Nat) (ad : Nat → Nat) (k : Int32) : KM l yX10_weight (.code yX10_weight cX10_weight 2 (some .long)) 25 821 0 0 D E sa [.ref a, .int k] [(a, .inr (10, (mfs ad)))] (S := Unit) (fun _ => some (.long (-1))) (fun _ => True) (fun _ => [(a, .inr (10, (mfs ad)))]) := by
  refine KM.of (by decide) (Nat.le_of_ble_eq_true rfl) ?_
  intro p e s m below meth c A ls hx hb hr hts hml hown hlocks hnm hK hP hD hA hS hZ hl
  have hown : s.vm.findClass RX10 = some m.cls := hown
  have hl : lv_has ls 2 [(0, .ref a), (1, .int k)] := hl
  refine lv_aload_n hx hb dX10_weight_0 rfl (lv_at hl 0 rfl) ?_
  refine lv_iconst (v := 0) hx hb dX10_weight_1 (by decide) ?_
  refine va_put (D := D) (ci := 10) (v := .int 0) (ty := .int) (C := RX10) (T := TX10) (N := 81) hx hb hts inX10 tyX10 tyX10_ok nmX10 hown hK hP hD hS 0 rfl rfl 0 (by decide) (hts _ b_1314) (fun _ h9 => h9) rfl (by decide +kernel) rfl rfl (Nat.le_of_ble_eq_true rfl) dX10_weight_2 (fun H locs hP hD hS => ?_)
  have hP : va_P D k_cl [(a, .inr (10, (mfs ad)))] H := hP
  have hD : va_D A [(a, .inr (10, (mfs ad)))] := hD
  refine lv_aload_n hx hb dX10_weight_5 rfl (lv_at hl 0 rfl) ?_
  refine lv_iload_n hx hb dX10_weight_6 rfl (lv_at hl 1 rfl) ?_
  refine k_RV (As := [.int k]) (rest := []) (ci := 10) (q0 := 0) ⟨hx, hb, hml, hown, hts⟩ (m_isArc l D E a ad k) b_1657 b_1659 b_53 b_88 b_1660 ⟨rfl, hd_X10_isArc⟩ ⟨⟨by decide, by decide⟩, by decide, by decide⟩ hK hP [0] rfl rfl rfl rfl hl.1 (Nat.le_of_ble_eq_true rfl) dX10_weight_7 ?_
  refine lv_if_eq (tgt := 22) hx hb dX10_weight_10 (by decide) (fun _ => ?_) (fun h9 => absurd (by decide) h9)
  refine lv_ldc2 hx hb hown (hts _ b_1669) dX10_weight_22 ?_
  exact m_l () hx hb hr hlocks rfl trivial (hP.sub [0] rfl) (hD.sub [0] (by decide) rfl) hS (by decide) (by decide) dX10_weight_25
set_option maxRecDepth 20000 in
set_option maxHeartbeats 2000000 in
theorem m_clear (l : Launch) (D : va_G) (E : Nat → ClassId) (sa : Nat → Nat) (a : Nat) (ad : Nat → Nat) : KM l yX10_clear (.code yX10_clear cX10_clear 2 (some .int)) 25 820 0 0 D E sa [.ref a] [(a, .inr (10, (mfs ad)))] (S := Unit) (fun _ => some (.int 0)) (fun _ => True) (fun _ => [(a, .inr (10, (mfs ad)))]) := by
  refine KM.of (by decide) (Nat.le_of_ble_eq_true rfl) ?_
  intro p e s m below meth c A ls hx hb hr hts hml hown hlocks hnm hK hP hD hA hS hZ hl
  have hown : s.vm.findClass RX10 = some m.cls := hown
  have hl : lv_has ls 2 [(0, .ref a)] := hl
  refine lv_aload_n hx hb dX10_clear_0 rfl (lv_at hl 0 rfl) ?_
  refine lv_iconst (v := 0) hx hb dX10_clear_1 (by decide) ?_
  refine va_put (D := D) (ci := 10) (v := .int 0) (ty := .int) (C := RX10) (T := TX10) (N := 81) hx hb hts inX10 tyX10 tyX10_ok nmX10 hown hK hP hD hS 0 rfl rfl 0 (by decide) (hts _ b_1314) (fun _ h9 => h9) rfl (by decide +kernel) rfl rfl (Nat.le_of_ble_eq_true rfl) dX10_clear_2 (fun H locs hP hD hS => ?_)
  have hP : va_P D k_cl [(a, .inr (10, (mfs ad)))] H := hP
  have hD : va_D A [(a, .inr (10, (mfs ad)))] := hD
  refine lv_aload_n hx hb dX10_clear_5 rfl (lv_at hl 0 rfl) ?_
  refine va_get (D := D) (ci := 10) (v := .int 0) (C := RX10) (T := TX10) (N := 81) hx hb hts inX10 hown hK hP 0 rfl rfl 1 (by decide) (hts _ b_1315) (fun _ h9 => h9) rfl dX10_clear_6 ?_
  refine lv_istore_n (lv' := [(1, .int 0), (0, .ref a)]) hx hb dX10_clear_9 rfl hl (by decide) rfl (fun ls hl => ?_)
  refine lv_aload_n hx hb dX10_clear_10 rfl (lv_at hl 1 rfl) ?_
  refine lv_iconst (v := 0) hx hb dX10_clear_11 (by decide) ?_
  refine va_put (D := D) (ci := 10) (v := .int 0) (ty := .int) (C := RX10) (T := TX10) (N := 81) hx hb hts inX10 tyX10 tyX10_ok nmX10 hown hK hP hD hS 0 rfl rfl 1 (by decide) (hts _ b_1315) (fun _ h9 => h9) rfl (by decide +kernel) rfl rfl (Nat.le_of_ble_eq_true rfl) dX10_clear_12 (fun H locs hP hD hS => ?_)
  have hP : va_P D k_cl [(a, .inr (10, (mfs ad)))] H := hP
  have hD : va_D A [(a, .inr (10, (mfs ad)))] := hD
  refine lv_aload_n hx hb dX10_clear_15 rfl (lv_at hl 1 rfl) ?_
  refine lv_iconst (v := 0) hx hb dX10_clear_16 (by decide) ?_
  refine va_put (D := D) (ci := 10) (v := .int 0) (ty := .int) (C := RX10) (T := TX10) (N := 81) hx hb hts inX10 tyX10 tyX10_ok nmX10 hown hK hP hD hS 0 rfl rfl 5 (by decide) (hts _ b_1319) (fun _ h9 => h9) rfl (by decide +kernel) rfl rfl (Nat.le_of_ble_eq_true rfl) dX10_clear_17 (fun H locs hP hD hS => ?_)
  have hP : va_P D k_cl [(a, .inr (10, (mfs ad)))] H := hP
  have hD : va_D A [(a, .inr (10, (mfs ad)))] := hD
  refine lv_aload_n hx hb dX10_clear_20 rfl (lv_at hl 1 rfl) ?_
  refine lv_iconst (v := 0) hx hb dX10_clear_21 (by decide) ?_
  refine va_put (D := D) (ci := 10) (v := .int 0) (ty := .int) (C := RX10) (T := TX10) (N := 81) hx hb hts inX10 tyX10 tyX10_ok nmX10 hown hK hP hD hS 0 rfl rfl 10 (by decide) (hts _ b_1324) (fun _ h9 => h9) rfl (by decide +kernel) rfl rfl (Nat.le_of_ble_eq_true rfl) dX10_clear_22 (fun H locs hP hD hS => ?_)
  have hP : va_P D k_cl [(a, .inr (10, (mfs ad)))] H := hP
  have hD : va_D A [(a, .inr (10, (mfs ad)))] := hD
  refine lv_aload_n hx hb dX10_clear_25 rfl (lv_at hl 1 rfl) ?_
  refine lv_iconst (v := 0) hx hb dX10_clear_26 (by decide) ?_
  refine va_put (D := D) (ci := 10) (v := .int 0) (ty := .int) (C := RX10) (T := TX10) (N := 81) hx hb hts inX10 tyX10 tyX10_ok nmX10 hown hK hP hD hS 0 rfl rfl 12 (by decide) (hts _ b_1326) (fun _ h9 => h9) rfl (by decide +kernel) rfl rfl (Nat.le_of_ble_eq_true rfl) dX10_clear_27 (fun H locs hP hD hS => ?_)
  have hP : va_P D k_cl [(a, .inr (10, (mfs ad)))] H := hP
  have hD : va_D A [(a, .inr (10, (mfs ad)))] := hD
  refine lv_aload_n hx hb dX10_clear_30 rfl (lv_at hl 1 rfl) ?_
  refine lv_iconst (v := -1) hx hb dX10_clear_31 (by decide) ?_
  refine va_put (D := D) (ci := 10) (v := .int (-1)) (ty := .int) (C := RX10) (T := TX10) (N := 81) hx hb hts inX10 tyX10 tyX10_ok nmX10 hown hK hP hD hS 0 rfl rfl 17 (by decide) (hts _ b_1331) (fun _ h9 => h9) rfl (by decide +kernel) rfl rfl (Nat.le_of_ble_eq_true rfl) dX10_clear_32 (fun H locs hP hD hS => ?_)
  have hP : va_P D k_cl [(a, .inr (10, (mfs ad)))] H := hP
  have hD : va_D A [(a, .inr (10, (mfs ad)))] := hD
  refine lv_aload_n hx hb dX10_clear_35 rfl (lv_at hl 1 rfl) ?_
  refine k_MV (As := []) (rest := []) (ci := 10) (q0 := 0) (wr := []) ⟨hx, hb, hml, hown, hts⟩ (m_changes_0 l D E sa a ad) b_1630 b_1632 b_51 b_88 b_1633 ⟨rfl, hd_X10_changes⟩ ⟨⟨by decide, by decide⟩, by decide, by decide⟩ hK hP hD hS hA hZ [0] [] rfl rfl (by decide) rfl rfl rfl hl.1 (Nat.le_of_ble_eq_true rfl) dX10_clear_36 (fun u_1 H locs hu hP hD hS _ => ?_)
  have hP : va_P D k_cl [(a, .inr (10, (mfs ad)))] H := hP
  have hD : va_D A [(a, .inr (10, (mfs ad)))] := hD
  refine W.eq (g2 := F0 m 39 ls []) rfl ?_
  refine lv_iload_n hx hb dX10_clear_39 rfl (lv_at hl 0 rfl) ?_
  exact m_i () hx hb hr hlocks rfl trivial (hP.sub [0] rfl) (hD.sub [0] (by decide) rfl) hS (by decide) (by decide) dX10_clear_40
set_option maxRecDepth 20000 in
set_option maxHeartbeats 2000000 in
theorem m_settled (l : Launch) (D : va_G) (E : Nat → ClassId) (sa : Nat → Nat) (a : Nat) (ad : Nat → Nat) (k : Int32) : KM l yX10_settled (.code yX10_settled cX10_settled 2 (some .int)) 25 821 0 0 D E sa [.ref a, .int k] [(a, .inr (10, (mfs ad)))] (S := Unit) (fun _ => some (.int (-1))) (fun _ => True) (fun _ => [(a, .inr (10, (mfs ad)))]) := by
  refine KM.of (by decide) (Nat.le_of_ble_eq_true rfl) ?_
  intro p e s m below meth c A ls hx hb hr hts hml hown hlocks hnm hK hP hD hA hS hZ hl
  have hown : s.vm.findClass RX10 = some m.cls := hown
  have hl : lv_has ls 2 [(0, .ref a), (1, .int k)] := hl
  refine lv_aload_n hx hb dX10_settled_0 rfl (lv_at hl 0 rfl) ?_
  refine lv_iconst (v := 0) hx hb dX10_settled_1 (by decide) ?_
  refine va_put (D := D) (ci := 10) (v := .int 0) (ty := .int) (C := RX10) (T := TX10) (N := 81) hx hb hts inX10 tyX10 tyX10_ok nmX10 hown hK hP hD hS 0 rfl rfl 0 (by decide) (hts _ b_1314) (fun _ h9 => h9) rfl (by decide +kernel) rfl rfl (Nat.le_of_ble_eq_true rfl) dX10_settled_2 (fun H locs hP hD hS => ?_)
  have hP : va_P D k_cl [(a, .inr (10, (mfs ad)))] H := hP
  have hD : va_D A [(a, .inr (10, (mfs ad)))] := hD
  refine lv_aload_n hx hb dX10_settled_5 rfl (lv_at hl 0 rfl) ?_
  refine lv_iload_n hx hb dX10_settled_6 rfl (lv_at hl 1 rfl) ?_
  refine k_RV (As := [.int k]) (rest := []) (ci := 10) (q0 := 0) ⟨hx, hb, hml, hown, hts⟩ (m_isSettled l D E a ad k) b_1753 b_1755 b_65 b_88 b_1756 ⟨rfl, hd_X10_isSettled⟩ ⟨⟨by decide, by decide⟩, by decide, by decide⟩ hK hP [0] rfl rfl rfl rfl hl.1 (Nat.le_of_ble_eq_true rfl) dX10_settled_7 ?_
  refine lv_if_eq (tgt := 22) hx hb dX10_settled_10 (by decide) (fun _ => ?_) (fun h9 => absurd (by decide) h9)
  refine lv_iconst (v := -1) hx hb dX10_settled_22 (by decide) ?_
  exact m_i () hx hb hr hlocks rfl trivial (hP.sub [0] rfl) (hD.sub [0] (by decide) rfl) hS (by decide) (by decide) dX10_settled_23
set_option maxRecDepth 20000 in
set_option maxHeartbeats 2000000 in
theorem m_length (l : Launch) (D : va_G) (E : Nat → ClassId) (sa : Nat → Nat) (a : Nat) (ad : Nat → Nat) (k : Int32) : KM l yX10_length (.code yX10_length cX10_length 2 (some .long)) 25 821 0 0 D E sa [.ref a, .int k] [(a, .inr (10, (mfs ad)))] (S := Unit) (fun _ => some (.long (-1))) (fun _ => True) (fun _ => [(a, .inr (10, (mfs ad)))]) := by
  refine KM.of (by decide) (Nat.le_of_ble_eq_true rfl) ?_
  intro p e s m below meth c A ls hx hb hr hts hml hown hlocks hnm hK hP hD hA hS hZ hl
  have hown : s.vm.findClass RX10 = some m.cls := hown
  have hl : lv_has ls 2 [(0, .ref a), (1, .int k)] := hl
  refine lv_aload_n hx hb dX10_length_0 rfl (lv_at hl 0 rfl) ?_
  refine lv_iconst (v := 0) hx hb dX10_length_1 (by decide) ?_
  refine va_put (D := D) (ci := 10) (v := .int 0) (ty := .int) (C := RX10) (T := TX10) (N := 81) hx hb hts inX10 tyX10 tyX10_ok nmX10 hown hK hP hD hS 0 rfl rfl 0 (by decide) (hts _ b_1314) (fun _ h9 => h9) rfl (by decide +kernel) rfl rfl (Nat.le_of_ble_eq_true rfl) dX10_length_2 (fun H locs hP hD hS => ?_)
  have hP : va_P D k_cl [(a, .inr (10, (mfs ad)))] H := hP
  have hD : va_D A [(a, .inr (10, (mfs ad)))] := hD
  refine lv_aload_n hx hb dX10_length_5 rfl (lv_at hl 0 rfl) ?_
  refine lv_iload_n hx hb dX10_length_6 rfl (lv_at hl 1 rfl) ?_
  refine k_RV (As := [.int k]) (rest := []) (ci := 10) (q0 := 0) ⟨hx, hb, hml, hown, hts⟩ (m_isSettled l D E a ad k) b_1753 b_1755 b_65 b_88 b_1756 ⟨rfl, hd_X10_isSettled⟩ ⟨⟨by decide, by decide⟩, by decide, by decide⟩ hK hP [0] rfl rfl rfl rfl hl.1 (Nat.le_of_ble_eq_true rfl) dX10_length_7 ?_
  refine lv_if_eq (tgt := 22) hx hb dX10_length_10 (by decide) (fun _ => ?_) (fun h9 => absurd (by decide) h9)
  refine lv_ldc2 hx hb hown (hts _ b_1669) dX10_length_22 ?_
  exact m_l () hx hb hr hlocks rfl trivial (hP.sub [0] rfl) (hD.sub [0] (by decide) rfl) hS (by decide) (by decide) dX10_length_25
set_option maxRecDepth 20000 in
set_option maxHeartbeats 2000000 in
theorem m_count (l : Launch) (D : va_G) (E : Nat → ClassId) (sa : Nat → Nat) (a : Nat) (ad : Nat → Nat) (k : Int32) : KM l yX10_count (.code yX10_count cX10_count 2 (some .int)) 25 821 0 0 D E sa [.ref a, .int k] [(a, .inr (10, (mfs ad)))] (S := Unit) (fun _ => some (.int (-1))) (fun _ => True) (fun _ => [(a, .inr (10, (mfs ad)))]) := by
  refine KM.of (by decide) (Nat.le_of_ble_eq_true rfl) ?_
  intro p e s m below meth c A ls hx hb hr hts hml hown hlocks hnm hK hP hD hA hS hZ hl
  have hown : s.vm.findClass RX10 = some m.cls := hown
  have hl : lv_has ls 2 [(0, .ref a), (1, .int k)] := hl
  refine lv_aload_n hx hb dX10_count_0 rfl (lv_at hl 0 rfl) ?_
  refine lv_iconst (v := 0) hx hb dX10_count_1 (by decide) ?_
  refine va_put (D := D) (ci := 10) (v := .int 0) (ty := .int) (C := RX10) (T := TX10) (N := 81) hx hb hts inX10 tyX10 tyX10_ok nmX10 hown hK hP hD hS 0 rfl rfl 0 (by decide) (hts _ b_1314) (fun _ h9 => h9) rfl (by decide +kernel) rfl rfl (Nat.le_of_ble_eq_true rfl) dX10_count_2 (fun H locs hP hD hS => ?_)
  have hP : va_P D k_cl [(a, .inr (10, (mfs ad)))] H := hP
  have hD : va_D A [(a, .inr (10, (mfs ad)))] := hD
  refine lv_aload_n hx hb dX10_count_5 rfl (lv_at hl 0 rfl) ?_
  refine lv_iload_n hx hb dX10_count_6 rfl (lv_at hl 1 rfl) ?_
  refine k_RV (As := [.int k]) (rest := []) (ci := 10) (q0 := 0) ⟨hx, hb, hml, hown, hts⟩ (m_isSettled l D E a ad k) b_1753 b_1755 b_65 b_88 b_1756 ⟨rfl, hd_X10_isSettled⟩ ⟨⟨by decide, by decide⟩, by decide, by decide⟩ hK hP [0] rfl rfl rfl rfl hl.1 (Nat.le_of_ble_eq_true rfl) dX10_count_7 ?_
  refine lv_if_eq (tgt := 22) hx hb dX10_count_10 (by decide) (fun _ => ?_) (fun h9 => absurd (by decide) h9)
  refine lv_iconst (v := -1) hx hb dX10_count_22 (by decide) ?_
  exact m_i () hx hb hr hlocks rfl trivial (hP.sub [0] rfl) (hD.sub [0] (by decide) rfl) hS (by decide) (by decide) dX10_count_23
set_option maxRecDepth 20000 in
set_option maxHeartbeats 2000000 in
theorem m_distance (l : Launch) (D : va_G) (E : Nat → ClassId) (sa : Nat → Nat) (a : Nat) (ad : Nat → Nat) (k : Int32) (w : Int32) : KM l yX10_distance (.code yX10_distance cX10_distance 3 (some .long)) 25 821 0 0 D E sa [.ref a, .int k, .int w] [(a, .inr (10, (mfs ad)))] (S := Unit) (fun _ => some (.long (-1))) (fun _ => True) (fun _ => [(a, .inr (10, (mfs ad)))]) := by
  refine KM.of (by decide) (Nat.le_of_ble_eq_true rfl) ?_
  intro p e s m below meth c A ls hx hb hr hts hml hown hlocks hnm hK hP hD hA hS hZ hl
  have hown : s.vm.findClass RX10 = some m.cls := hown
  have hl : lv_has ls 3 [(0, .ref a), (1, .int k), (2, .int w)] := hl
  refine lv_aload_n hx hb dX10_distance_0 rfl (lv_at hl 0 rfl) ?_
  refine lv_iconst (v := 0) hx hb dX10_distance_1 (by decide) ?_
  refine va_put (D := D) (ci := 10) (v := .int 0) (ty := .int) (C := RX10) (T := TX10) (N := 81) hx hb hts inX10 tyX10 tyX10_ok nmX10 hown hK hP hD hS 0 rfl rfl 0 (by decide) (hts _ b_1314) (fun _ h9 => h9) rfl (by decide +kernel) rfl rfl (Nat.le_of_ble_eq_true rfl) dX10_distance_2 (fun H locs hP hD hS => ?_)
  have hP : va_P D k_cl [(a, .inr (10, (mfs ad)))] H := hP
  have hD : va_D A [(a, .inr (10, (mfs ad)))] := hD
  refine lv_aload_n hx hb dX10_distance_5 rfl (lv_at hl 0 rfl) ?_
  refine lv_iload_n hx hb dX10_distance_6 rfl (lv_at hl 1 rfl) ?_
  refine k_RV (As := [.int k]) (rest := []) (ci := 10) (q0 := 0) ⟨hx, hb, hml, hown, hts⟩ (m_isNode l D E a ad k) b_1646 b_1648 b_52 b_88 b_1649 ⟨rfl, hd_X10_isNode⟩ ⟨⟨by decide, by decide⟩, by decide, by decide⟩ hK hP [0] rfl rfl rfl rfl hl.1 (Nat.le_of_ble_eq_true rfl) dX10_distance_7 ?_
  refine lv_if_eq (tgt := 21) hx hb dX10_distance_10 (by decide) (fun _ => ?_) (fun h9 => absurd (by decide) h9)
  refine lv_ldc2 hx hb hown (hts _ b_1669) dX10_distance_21 ?_
  exact m_l () hx hb hr hlocks rfl trivial (hP.sub [0] rfl) (hD.sub [0] (by decide) rfl) hS (by decide) (by decide) dX10_distance_24
set_option maxRecDepth 20000 in
set_option maxHeartbeats 2000000 in
theorem m_arcs (l : Launch) (D : va_G) (E : Nat → ClassId) (sa : Nat → Nat) (a : Nat) (ad : Nat → Nat) (k : Int32) (w : Int32) : KM l yX10_arcs (.code yX10_arcs cX10_arcs 3 (some .int)) 25 821 0 0 D E sa [.ref a, .int k, .int w] [(a, .inr (10, (mfs ad)))] (S := Unit) (fun _ => some (.int (-1))) (fun _ => True) (fun _ => [(a, .inr (10, (mfs ad)))]) := by
  refine KM.of (by decide) (Nat.le_of_ble_eq_true rfl) ?_
  intro p e s m below meth c A ls hx hb hr hts hml hown hlocks hnm hK hP hD hA hS hZ hl
  have hown : s.vm.findClass RX10 = some m.cls := hown
  have hl : lv_has ls 3 [(0, .ref a), (1, .int k), (2, .int w)] := hl
  refine lv_aload_n hx hb dX10_arcs_0 rfl (lv_at hl 0 rfl) ?_
  refine lv_iconst (v := 0) hx hb dX10_arcs_1 (by decide) ?_
  refine va_put (D := D) (ci := 10) (v := .int 0) (ty := .int) (C := RX10) (T := TX10) (N := 81) hx hb hts inX10 tyX10 tyX10_ok nmX10 hown hK hP hD hS 0 rfl rfl 0 (by decide) (hts _ b_1314) (fun _ h9 => h9) rfl (by decide +kernel) rfl rfl (Nat.le_of_ble_eq_true rfl) dX10_arcs_2 (fun H locs hP hD hS => ?_)
  have hP : va_P D k_cl [(a, .inr (10, (mfs ad)))] H := hP
  have hD : va_D A [(a, .inr (10, (mfs ad)))] := hD
  refine lv_aload_n hx hb dX10_arcs_5 rfl (lv_at hl 0 rfl) ?_
  refine lv_iload_n hx hb dX10_arcs_6 rfl (lv_at hl 1 rfl) ?_
  refine k_RV (As := [.int k]) (rest := []) (ci := 10) (q0 := 0) ⟨hx, hb, hml, hown, hts⟩ (m_isNode l D E a ad k) b_1646 b_1648 b_52 b_88 b_1649 ⟨rfl, hd_X10_isNode⟩ ⟨⟨by decide, by decide⟩, by decide, by decide⟩ hK hP [0] rfl rfl rfl rfl hl.1 (Nat.le_of_ble_eq_true rfl) dX10_arcs_7 ?_
  refine lv_if_eq (tgt := 21) hx hb dX10_arcs_10 (by decide) (fun _ => ?_) (fun h9 => absurd (by decide) h9)
  refine lv_iconst (v := -1) hx hb dX10_arcs_21 (by decide) ?_
  exact m_i () hx hb hr hlocks rfl trivial (hP.sub [0] rfl) (hD.sub [0] (by decide) rfl) hS (by decide) (by decide) dX10_arcs_22
set_option maxRecDepth 20000 in
set_option maxHeartbeats 2000000 in
theorem m_inconsistent (l : Launch) (D : va_G) (E : Nat → ClassId) (sa : Nat → Nat) (a : Nat) (ad : Nat → Nat) : KM l yX10_inconsistent (.code yX10_inconsistent cX10_inconsistent 1 (some .int)) 25 821 0 0 D E sa [.ref a] [(a, .inr (10, (mfs ad)))] (S := Unit) (fun _ => some (.int (-1))) (fun _ => True) (fun _ => [(a, .inr (10, (mfs ad)))]) := by
  refine KM.of (by decide) (Nat.le_of_ble_eq_true rfl) ?_
  intro p e s m below meth c A ls hx hb hr hts hml hown hlocks hnm hK hP hD hA hS hZ hl
  have hown : s.vm.findClass RX10 = some m.cls := hown
  have hl : lv_has ls 1 [(0, .ref a)] := hl
  refine lv_aload_n hx hb dX10_inconsistent_0 rfl (lv_at hl 0 rfl) ?_
  refine lv_iconst (v := 0) hx hb dX10_inconsistent_1 (by decide) ?_
  refine va_put (D := D) (ci := 10) (v := .int 0) (ty := .int) (C := RX10) (T := TX10) (N := 81) hx hb hts inX10 tyX10 tyX10_ok nmX10 hown hK hP hD hS 0 rfl rfl 0 (by decide) (hts _ b_1314) (fun _ h9 => h9) rfl (by decide +kernel) rfl rfl (Nat.le_of_ble_eq_true rfl) dX10_inconsistent_2 (fun H locs hP hD hS => ?_)
  have hP : va_P D k_cl [(a, .inr (10, (mfs ad)))] H := hP
  have hD : va_D A [(a, .inr (10, (mfs ad)))] := hD
  refine lv_aload_n hx hb dX10_inconsistent_5 rfl (lv_at hl 0 rfl) ?_
  refine k_RV (As := []) (rest := []) (ci := 10) (q0 := 0) ⟨hx, hb, hml, hown, hts⟩ (m_inconsistentArc l D E a ad) b_1725 b_1727 b_61 b_88 b_1728 ⟨rfl, hd_X10_inconsistentArc⟩ ⟨⟨by decide, by decide⟩, by decide, by decide⟩ hK hP [0] rfl rfl rfl rfl hl.1 (Nat.le_of_ble_eq_true rfl) dX10_inconsistent_6 ?_
  exact m_i () hx hb hr hlocks rfl trivial (hP.sub [0] rfl) (hD.sub [0] (by decide) rfl) hS (by decide) (by decide) dX10_inconsistent_9
set_option maxRecDepth 20000 in
set_option maxHeartbeats 2000000 in
theorem m_bound (l : Launch) (D : va_G) (E : Nat → ClassId) (sa : Nat → Nat) (a : Nat) (ad : Nat → Nat) (k : Int32) (w : Int32) : KM l yX10_bound (.code yX10_bound cX10_bound 3 (some .long)) 25 821 0 0 D E sa [.ref a, .int k, .int w] [(a, .inr (10, (mfs ad)))] (S := Unit) (fun _ => some (.long (-1))) (fun _ => True) (fun _ => [(a, .inr (10, (mfs ad)))]) := by
  refine KM.of (by decide) (Nat.le_of_ble_eq_true rfl) ?_
  intro p e s m below meth c A ls hx hb hr hts hml hown hlocks hnm hK hP hD hA hS hZ hl
  have hown : s.vm.findClass RX10 = some m.cls := hown
  have hl : lv_has ls 3 [(0, .ref a), (1, .int k), (2, .int w)] := hl
  refine lv_aload_n hx hb dX10_bound_0 rfl (lv_at hl 0 rfl) ?_
  refine lv_iconst (v := 0) hx hb dX10_bound_1 (by decide) ?_
  refine va_put (D := D) (ci := 10) (v := .int 0) (ty := .int) (C := RX10) (T := TX10) (N := 81) hx hb hts inX10 tyX10 tyX10_ok nmX10 hown hK hP hD hS 0 rfl rfl 0 (by decide) (hts _ b_1314) (fun _ h9 => h9) rfl (by decide +kernel) rfl rfl (Nat.le_of_ble_eq_true rfl) dX10_bound_2 (fun H locs hP hD hS => ?_)
  have hP : va_P D k_cl [(a, .inr (10, (mfs ad)))] H := hP
  have hD : va_D A [(a, .inr (10, (mfs ad)))] := hD
  refine lv_aload_n hx hb dX10_bound_5 rfl (lv_at hl 0 rfl) ?_
  refine lv_iload_n hx hb dX10_bound_6 rfl (lv_at hl 1 rfl) ?_
  refine k_RV (As := [.int k]) (rest := []) (ci := 10) (q0 := 0) ⟨hx, hb, hml, hown, hts⟩ (m_isNode l D E a ad k) b_1646 b_1648 b_52 b_88 b_1649 ⟨rfl, hd_X10_isNode⟩ ⟨⟨by decide, by decide⟩, by decide, by decide⟩ hK hP [0] rfl rfl rfl rfl hl.1 (Nat.le_of_ble_eq_true rfl) dX10_bound_7 ?_
  refine lv_if_eq (tgt := 28) hx hb dX10_bound_10 (by decide) (fun _ => ?_) (fun h9 => absurd (by decide) h9)
  refine lv_ldc2 hx hb hown (hts _ b_1669) dX10_bound_28 ?_
  exact m_l () hx hb hr hlocks rfl trivial (hP.sub [0] rfl) (hD.sub [0] (by decide) rfl) hS (by decide) (by decide) dX10_bound_31
set_option maxRecDepth 20000 in
set_option maxHeartbeats 2000000 in
theorem m_ready (l : Launch) (D : va_G) (E : Nat → ClassId) (sa : Nat → Nat) (a : Nat) (ad : Nat → Nat) : KM l yX10_ready (.code yX10_ready cX10_ready 1 (some .int)) 12 400 0 0 D E sa [.ref a] [(a, .inr (10, (mfs ad)))] (S := Unit) (fun _ => some (.int 0)) (fun _ => True) (fun _ => [(a, .inr (10, (mfs ad)))]) := by
  refine KM.of (by decide) (Nat.le_of_ble_eq_true rfl) ?_
  intro p e s m below meth c A ls hx hb hr hts hml hown hlocks hnm hK hP hD hA hS hZ hl
  have hown : s.vm.findClass RX10 = some m.cls := hown
  have hl : lv_has ls 1 [(0, .ref a)] := hl
  refine lv_aload_n hx hb dX10_ready_0 rfl (lv_at hl 0 rfl) ?_
  refine lv_iconst (v := 0) hx hb dX10_ready_1 (by decide) ?_
  refine va_put (D := D) (ci := 10) (v := .int 0) (ty := .int) (C := RX10) (T := TX10) (N := 81) hx hb hts inX10 tyX10 tyX10_ok nmX10 hown hK hP hD hS 0 rfl rfl 0 (by decide) (hts _ b_1314) (fun _ h9 => h9) rfl (by decide +kernel) rfl rfl (Nat.le_of_ble_eq_true rfl) dX10_ready_2 (fun H locs hP hD hS => ?_)
  have hP : va_P D k_cl [(a, .inr (10, (mfs ad)))] H := hP
  have hD : va_D A [(a, .inr (10, (mfs ad)))] := hD
  refine lv_aload_n hx hb dX10_ready_5 rfl (lv_at hl 0 rfl) ?_
  refine va_get (D := D) (ci := 10) (v := .int 0) (C := RX10) (T := TX10) (N := 81) hx hb hts inX10 hown hK hP 0 rfl rfl 45 (by decide) (hts _ b_1359) (fun _ h9 => h9) rfl dX10_ready_6 ?_
  refine lv_if_eq (tgt := 16) hx hb dX10_ready_9 (by decide) (fun _ => ?_) (fun h9 => absurd (by decide) h9)
  refine lv_iconst (v := 0) hx hb dX10_ready_16 (by decide) ?_
  exact m_i () hx hb hr hlocks rfl trivial (hP.sub [0] rfl) (hD.sub [0] (by decide) rfl) hS (by decide) (by decide) dX10_ready_17
set_option maxRecDepth 20000 in
set_option maxHeartbeats 2000000 in
theorem m_ranked (l : Launch) (D : va_G) (E : Nat → ClassId) (sa : Nat → Nat) (a : Nat) (ad : Nat → Nat) (k : Int32) : KM l yX10_ranked (.code yX10_ranked cX10_ranked 2 (some .int)) 12 400 0 0 D E sa [.ref a, .int k] [(a, .inr (10, (mfs ad)))] (S := Unit) (fun _ => some (.int (-1))) (fun _ => True) (fun _ => [(a, .inr (10, (mfs ad)))]) := by
  refine KM.of (by decide) (Nat.le_of_ble_eq_true rfl) ?_
  intro p e s m below meth c A ls hx hb hr hts hml hown hlocks hnm hK hP hD hA hS hZ hl
  have hown : s.vm.findClass RX10 = some m.cls := hown
  have hl : lv_has ls 2 [(0, .ref a), (1, .int k)] := hl
  refine lv_aload_n hx hb dX10_ranked_0 rfl (lv_at hl 0 rfl) ?_
  refine lv_iconst (v := 0) hx hb dX10_ranked_1 (by decide) ?_
  refine va_put (D := D) (ci := 10) (v := .int 0) (ty := .int) (C := RX10) (T := TX10) (N := 81) hx hb hts inX10 tyX10 tyX10_ok nmX10 hown hK hP hD hS 0 rfl rfl 0 (by decide) (hts _ b_1314) (fun _ h9 => h9) rfl (by decide +kernel) rfl rfl (Nat.le_of_ble_eq_true rfl) dX10_ranked_2 (fun H locs hP hD hS => ?_)
  have hP : va_P D k_cl [(a, .inr (10, (mfs ad)))] H := hP
  have hD : va_D A [(a, .inr (10, (mfs ad)))] := hD
  refine lv_aload_n hx hb dX10_ranked_5 rfl (lv_at hl 0 rfl) ?_
  refine va_get (D := D) (ci := 10) (v := .int 0) (C := RX10) (T := TX10) (N := 81) hx hb hts inX10 hown hK hP 0 rfl rfl 45 (by decide) (hts _ b_1359) (fun _ h9 => h9) rfl dX10_ranked_6 ?_
  refine lv_if_eq (tgt := 33) hx hb dX10_ranked_9 (by decide) (fun _ => ?_) (fun h9 => absurd (by decide) h9)
  refine lv_iconst (v := -1) hx hb dX10_ranked_33 (by decide) ?_
  exact m_i () hx hb hr hlocks rfl trivial (hP.sub [0] rfl) (hD.sub [0] (by decide) rfl) hS (by decide) (by decide) dX10_ranked_34
set_option maxRecDepth 20000 in
set_option maxHeartbeats 2000000 in
theorem m_edge (l : Launch) (D : va_G) (E : Nat → ClassId) (sa : Nat → Nat) (a : Nat) (ad : Nat → Nat) (k : Int32) (d : Int32) (i : Int32) (w : Int32) : KM l yX10_edge (.code yX10_edge cX10_edge 6 (some .int)) 25 826 0 0 D E sa [.ref a, .int k, .int d, .int i, .int w] [(a, .inr (10, (mfs ad)))] (S := Unit) (fun _ => some (.int (-1))) (fun _ => True) (fun _ => [(a, .inr (10, (mfs ad)))]) := by
  refine KM.of (by decide) (Nat.le_of_ble_eq_true rfl) ?_
  intro p e s m below meth c A ls hx hb hr hts hml hown hlocks hnm hK hP hD hA hS hZ hl
  have hown : s.vm.findClass RX10 = some m.cls := hown
  have hl : lv_has ls 6 [(0, .ref a), (1, .int k), (2, .int d), (3, .int i), (4, .int w)] := hl
  refine lv_aload_n hx hb dX10_edge_0 rfl (lv_at hl 0 rfl) ?_
  refine lv_iconst (v := 0) hx hb dX10_edge_1 (by decide) ?_
  refine va_put (D := D) (ci := 10) (v := .int 0) (ty := .int) (C := RX10) (T := TX10) (N := 81) hx hb hts inX10 tyX10 tyX10_ok nmX10 hown hK hP hD hS 0 rfl rfl 0 (by decide) (hts _ b_1314) (fun _ h9 => h9) rfl (by decide +kernel) rfl rfl (Nat.le_of_ble_eq_true rfl) dX10_edge_2 (fun H locs hP hD hS => ?_)
  have hP : va_P D k_cl [(a, .inr (10, (mfs ad)))] H := hP
  have hD : va_D A [(a, .inr (10, (mfs ad)))] := hD
  refine lv_aload_n hx hb dX10_edge_5 rfl (lv_at hl 0 rfl) ?_
  refine lv_iload_n hx hb dX10_edge_6 rfl (lv_at hl 1 rfl) ?_
  refine lv_iload_n hx hb dX10_edge_7 rfl (lv_at hl 2 rfl) ?_
  refine lv_iload_n hx hb dX10_edge_8 rfl (lv_at hl 3 rfl) ?_
  refine k_RV (As := [.int k, .int d, .int i]) (rest := []) (ci := 10) (q0 := 0) ⟨hx, hb, hml, hown, hts⟩ (m_edgeAt l D E a ad k d i) b_1840 b_1842 b_71 b_88 b_1843 ⟨rfl, hd_X10_edgeAt⟩ ⟨⟨by decide, by decide⟩, by decide, by decide⟩ hK hP [0] rfl rfl rfl rfl hl.1 (Nat.le_of_ble_eq_true rfl) dX10_edge_9 ?_
  refine lv_istore (lv' := [(5, .int (-1)), (0, .ref a), (1, .int k), (2, .int d), (3, .int i), (4, .int w)]) hx hb dX10_edge_12 hl (by decide) rfl (fun ls hl => ?_)
  refine lv_iload hx hb dX10_edge_14 (lv_at hl 0 rfl) ?_
  refine lv_if_ge (tgt := 21) hx hb dX10_edge_16 (by decide) (fun h9 => absurd h9 (by decide)) (fun _ => ?_)
  refine lv_iconst (v := -1) hx hb dX10_edge_19 (by decide) ?_
  exact m_i () hx hb hr hlocks rfl trivial (hP.sub [0] rfl) (hD.sub [0] (by decide) rfl) hS (by decide) (by decide) dX10_edge_20
set_option maxRecDepth 20000 in
set_option maxHeartbeats 2000000 in
theorem m_edgeLength (l : Launch) (D : va_G) (E : Nat → ClassId) (sa : Nat → Nat) (a : Nat) (ad : Nat → Nat) (k : Int32) (d : Int32) (i : Int32) : KM l yX10_edgeLength (.code yX10_edgeLength cX10_edgeLength 5 (some .long)) 25 826 0 0 D E sa [.ref a, .int k, .int d, .int i] [(a, .inr (10, (mfs ad)))] (S := Unit) (fun _ => some (.long (-1))) (fun _ => True) (fun _ => [(a, .inr (10, (mfs ad)))]) := by
  refine KM.of (by decide) (Nat.le_of_ble_eq_true rfl) ?_
  intro p e s m below meth c A ls hx hb hr hts hml hown hlocks hnm hK hP hD hA hS hZ hl
  have hown : s.vm.findClass RX10 = some m.cls := hown
  have hl : lv_has ls 5 [(0, .ref a), (1, .int k), (2, .int d), (3, .int i)] := hl
  refine lv_aload_n hx hb dX10_edgeLength_0 rfl (lv_at hl 0 rfl) ?_
  refine lv_iconst (v := 0) hx hb dX10_edgeLength_1 (by decide) ?_
  refine va_put (D := D) (ci := 10) (v := .int 0) (ty := .int) (C := RX10) (T := TX10) (N := 81) hx hb hts inX10 tyX10 tyX10_ok nmX10 hown hK hP hD hS 0 rfl rfl 0 (by decide) (hts _ b_1314) (fun _ h9 => h9) rfl (by decide +kernel) rfl rfl (Nat.le_of_ble_eq_true rfl) dX10_edgeLength_2 (fun H locs hP hD hS => ?_)
  have hP : va_P D k_cl [(a, .inr (10, (mfs ad)))] H := hP
  have hD : va_D A [(a, .inr (10, (mfs ad)))] := hD
  refine lv_aload_n hx hb dX10_edgeLength_5 rfl (lv_at hl 0 rfl) ?_
  refine lv_iload_n hx hb dX10_edgeLength_6 rfl (lv_at hl 1 rfl) ?_
  refine lv_iload_n hx hb dX10_edgeLength_7 rfl (lv_at hl 2 rfl) ?_
  refine lv_iload_n hx hb dX10_edgeLength_8 rfl (lv_at hl 3 rfl) ?_
  refine k_RV (As := [.int k, .int d, .int i]) (rest := []) (ci := 10) (q0 := 0) ⟨hx, hb, hml, hown, hts⟩ (m_edgeAt l D E a ad k d i) b_1840 b_1842 b_71 b_88 b_1843 ⟨rfl, hd_X10_edgeAt⟩ ⟨⟨by decide, by decide⟩, by decide, by decide⟩ hK hP [0] rfl rfl rfl rfl hl.1 (Nat.le_of_ble_eq_true rfl) dX10_edgeLength_9 ?_
  refine lv_istore (lv' := [(4, .int (-1)), (0, .ref a), (1, .int k), (2, .int d), (3, .int i)]) hx hb dX10_edgeLength_12 hl (by decide) rfl (fun ls hl => ?_)
  refine lv_iload hx hb dX10_edgeLength_14 (lv_at hl 0 rfl) ?_
  refine lv_if_ge (tgt := 25) hx hb dX10_edgeLength_16 (by decide) (fun h9 => absurd h9 (by decide)) (fun _ => ?_)
  refine lv_ldc2 hx hb hown (hts _ b_1669) dX10_edgeLength_19 ?_
  refine lv_goto (tgt := 46) hx hb dX10_edgeLength_22 (by decide) ?_
  exact m_l () hx hb hr hlocks rfl trivial (hP.sub [0] rfl) (hD.sub [0] (by decide) rfl) hS (by decide) (by decide) dX10_edgeLength_46
set_option maxRecDepth 20000 in
set_option maxHeartbeats 2000000 in
theorem m_told (l : Launch) (D : va_G) (E : Nat → ClassId) (sa : Nat → Nat) (a : Nat) (ad : Nat → Nat) (k : Int32) : KM l yX10_told (.code yX10_told cX10_told 2 (some .int)) 12 400 0 0 D E sa [.ref a, .int k] [(a, .inr (10, (mfs ad)))] (S := Unit) (fun _ => some (.int (-1))) (fun _ => True) (fun _ => [(a, .inr (10, (mfs ad)))]) := by
  refine KM.of (by decide) (Nat.le_of_ble_eq_true rfl) ?_
  intro p e s m below meth c A ls hx hb hr hts hml hown hlocks hnm hK hP hD hA hS hZ hl
  have hown : s.vm.findClass RX10 = some m.cls := hown
  have hl : lv_has ls 2 [(0, .ref a), (1, .int k)] := hl
  refine lv_aload_n hx hb dX10_told_0 rfl (lv_at hl 0 rfl) ?_
  refine lv_iconst (v := 0) hx hb dX10_told_1 (by decide) ?_
  refine va_put (D := D) (ci := 10) (v := .int 0) (ty := .int) (C := RX10) (T := TX10) (N := 81) hx hb hts inX10 tyX10 tyX10_ok nmX10 hown hK hP hD hS 0 rfl rfl 0 (by decide) (hts _ b_1314) (fun _ h9 => h9) rfl (by decide +kernel) rfl rfl (Nat.le_of_ble_eq_true rfl) dX10_told_2 (fun H locs hP hD hS => ?_)
  have hP : va_P D k_cl [(a, .inr (10, (mfs ad)))] H := hP
  have hD : va_D A [(a, .inr (10, (mfs ad)))] := hD
  refine lv_aload_n hx hb dX10_told_5 rfl (lv_at hl 0 rfl) ?_
  refine va_get (D := D) (ci := 10) (v := .int 0) (C := RX10) (T := TX10) (N := 81) hx hb hts inX10 hown hK hP 0 rfl rfl 60 (by decide) (hts _ b_1374) (fun _ h9 => h9) rfl dX10_told_6 ?_
  refine lv_if_ne (tgt := 14) hx hb dX10_told_9 (by decide) (fun h9 => absurd (by decide) h9) (fun _ => ?_)
  refine lv_iconst (v := -1) hx hb dX10_told_12 (by decide) ?_
  exact m_i () hx hb hr hlocks rfl trivial (hP.sub [0] rfl) (hD.sub [0] (by decide) rfl) hS (by decide) (by decide) dX10_told_13
set_option maxRecDepth 20000 in
set_option maxHeartbeats 2000000 in
theorem m_found (l : Launch) (D : va_G) (E : Nat → ClassId) (sa : Nat → Nat) (a : Nat) (ad : Nat → Nat) : KM l yX10_found (.code yX10_found cX10_found 1 (some .long)) 12 400 0 0 D E sa [.ref a] [(a, .inr (10, (mfs ad)))] (S := Unit) (fun _ => some (.long (-1))) (fun _ => True) (fun _ => [(a, .inr (10, (mfs ad)))]) := by
  refine KM.of (by decide) (Nat.le_of_ble_eq_true rfl) ?_
  intro p e s m below meth c A ls hx hb hr hts hml hown hlocks hnm hK hP hD hA hS hZ hl
  have hown : s.vm.findClass RX10 = some m.cls := hown
  have hl : lv_has ls 1 [(0, .ref a)] := hl
  refine lv_aload_n hx hb dX10_found_0 rfl (lv_at hl 0 rfl) ?_
  refine lv_iconst (v := 0) hx hb dX10_found_1 (by decide) ?_
  refine va_put (D := D) (ci := 10) (v := .int 0) (ty := .int) (C := RX10) (T := TX10) (N := 81) hx hb hts inX10 tyX10 tyX10_ok nmX10 hown hK hP hD hS 0 rfl rfl 0 (by decide) (hts _ b_1314) (fun _ h9 => h9) rfl (by decide +kernel) rfl rfl (Nat.le_of_ble_eq_true rfl) dX10_found_2 (fun H locs hP hD hS => ?_)
  have hP : va_P D k_cl [(a, .inr (10, (mfs ad)))] H := hP
  have hD : va_D A [(a, .inr (10, (mfs ad)))] := hD
  refine lv_aload_n hx hb dX10_found_5 rfl (lv_at hl 0 rfl) ?_
  refine va_get (D := D) (ci := 10) (v := .int 0) (C := RX10) (T := TX10) (N := 81) hx hb hts inX10 hown hK hP 0 rfl rfl 60 (by decide) (hts _ b_1374) (fun _ h9 => h9) rfl dX10_found_6 ?_
  refine lv_if_eq (tgt := 26) hx hb dX10_found_9 (by decide) (fun _ => ?_) (fun h9 => absurd (by decide) h9)
  refine lv_ldc2 hx hb hown (hts _ b_1669) dX10_found_26 ?_
  exact m_l () hx hb hr hlocks rfl trivial (hP.sub [0] rfl) (hD.sub [0] (by decide) rfl) hS (by decide) (by decide) dX10_found_29
set_option maxRecDepth 20000 in
set_option maxHeartbeats 2000000 in
theorem m_step (l : Launch) (D : va_G) (E : Nat → ClassId) (sa : Nat → Nat) (a : Nat) (ad : Nat → Nat) (k : Int32) : KM l yX10_step (.code yX10_step cX10_step 2 (some .int)) 12 400 0 0 D E sa [.ref a, .int k] [(a, .inr (10, (mfs ad)))] (S := Unit) (fun _ => some (.int (-1))) (fun _ => True) (fun _ => [(a, .inr (10, (mfs ad)))]) := by
  refine KM.of (by decide) (Nat.le_of_ble_eq_true rfl) ?_
  intro p e s m below meth c A ls hx hb hr hts hml hown hlocks hnm hK hP hD hA hS hZ hl
  have hown : s.vm.findClass RX10 = some m.cls := hown
  have hl : lv_has ls 2 [(0, .ref a), (1, .int k)] := hl
  refine lv_aload_n hx hb dX10_step_0 rfl (lv_at hl 0 rfl) ?_
  refine lv_iconst (v := 0) hx hb dX10_step_1 (by decide) ?_
  refine va_put (D := D) (ci := 10) (v := .int 0) (ty := .int) (C := RX10) (T := TX10) (N := 81) hx hb hts inX10 tyX10 tyX10_ok nmX10 hown hK hP hD hS 0 rfl rfl 0 (by decide) (hts _ b_1314) (fun _ h9 => h9) rfl (by decide +kernel) rfl rfl (Nat.le_of_ble_eq_true rfl) dX10_step_2 (fun H locs hP hD hS => ?_)
  have hP : va_P D k_cl [(a, .inr (10, (mfs ad)))] H := hP
  have hD : va_D A [(a, .inr (10, (mfs ad)))] := hD
  refine lv_aload_n hx hb dX10_step_5 rfl (lv_at hl 0 rfl) ?_
  refine va_get (D := D) (ci := 10) (v := .int 0) (C := RX10) (T := TX10) (N := 81) hx hb hts inX10 hown hK hP 0 rfl rfl 60 (by decide) (hts _ b_1374) (fun _ h9 => h9) rfl dX10_step_6 ?_
  refine lv_if_eq (tgt := 40) hx hb dX10_step_9 (by decide) (fun _ => ?_) (fun h9 => absurd (by decide) h9)
  refine lv_iconst (v := -1) hx hb dX10_step_40 (by decide) ?_
  exact m_i () hx hb hr hlocks rfl trivial (hP.sub [0] rfl) (hD.sub [0] (by decide) rfl) hS (by decide) (by decide) dX10_step_41
set_option maxRecDepth 20000 in
set_option maxHeartbeats 2000000 in
theorem m_relaxed (l : Launch) (D : va_G) (E : Nat → ClassId) (sa : Nat → Nat) (a : Nat) (ad : Nat → Nat) (k : Int32) (w : Int32) : KM l yX10_relaxed (.code yX10_relaxed cX10_relaxed 3 (some .int)) 12 400 0 0 D E sa [.ref a, .int k, .int w] [(a, .inr (10, (mfs ad)))] (S := Unit) (fun _ => some (.int (-1))) (fun _ => True) (fun _ => [(a, .inr (10, (mfs ad)))]) := by
  refine KM.of (by decide) (Nat.le_of_ble_eq_true rfl) ?_
  intro p e s m below meth c A ls hx hb hr hts hml hown hlocks hnm hK hP hD hA hS hZ hl
  have hown : s.vm.findClass RX10 = some m.cls := hown
  have hl : lv_has ls 3 [(0, .ref a), (1, .int k), (2, .int w)] := hl
  refine lv_aload_n hx hb dX10_relaxed_0 rfl (lv_at hl 0 rfl) ?_
  refine lv_iconst (v := 0) hx hb dX10_relaxed_1 (by decide) ?_
  refine va_put (D := D) (ci := 10) (v := .int 0) (ty := .int) (C := RX10) (T := TX10) (N := 81) hx hb hts inX10 tyX10 tyX10_ok nmX10 hown hK hP hD hS 0 rfl rfl 0 (by decide) (hts _ b_1314) (fun _ h9 => h9) rfl (by decide +kernel) rfl rfl (Nat.le_of_ble_eq_true rfl) dX10_relaxed_2 (fun H locs hP hD hS => ?_)
  have hP : va_P D k_cl [(a, .inr (10, (mfs ad)))] H := hP
  have hD : va_D A [(a, .inr (10, (mfs ad)))] := hD
  refine lv_aload_n hx hb dX10_relaxed_5 rfl (lv_at hl 0 rfl) ?_
  refine va_get (D := D) (ci := 10) (v := .int 0) (C := RX10) (T := TX10) (N := 81) hx hb hts inX10 hown hK hP 0 rfl rfl 60 (by decide) (hts _ b_1374) (fun _ h9 => h9) rfl dX10_relaxed_6 ?_
  refine lv_if_eq (tgt := 24) hx hb dX10_relaxed_9 (by decide) (fun _ => ?_) (fun h9 => absurd (by decide) h9)
  refine lv_iconst (v := -1) hx hb dX10_relaxed_24 (by decide) ?_
  exact m_i () hx hb hr hlocks rfl trivial (hP.sub [0] rfl) (hD.sub [0] (by decide) rfl) hS (by decide) (by decide) dX10_relaxed_25
set_option maxRecDepth 20000 in
set_option maxHeartbeats 2000000 in
theorem m_reached (l : Launch) (D : va_G) (E : Nat → ClassId) (sa : Nat → Nat) (a : Nat) (ad : Nat → Nat) (k : Int32) (w : Int32) : KM l yX10_reached (.code yX10_reached cX10_reached 5 (some .int)) 25 821 0 0 D E sa [.ref a, .int k, .int w] [(a, .inr (10, (mfs ad)))] (S := Unit) (fun _ => some (.int (-1))) (fun _ => True) (fun _ => [(a, .inr (10, (mfs ad)))]) := by
  refine KM.of (by decide) (Nat.le_of_ble_eq_true rfl) ?_
  intro p e s m below meth c A ls hx hb hr hts hml hown hlocks hnm hK hP hD hA hS hZ hl
  have hown : s.vm.findClass RX10 = some m.cls := hown
  have hl : lv_has ls 5 [(0, .ref a), (1, .int k), (2, .int w)] := hl
  refine lv_aload_n hx hb dX10_reached_0 rfl (lv_at hl 0 rfl) ?_
  refine lv_iconst (v := 0) hx hb dX10_reached_1 (by decide) ?_
  refine va_put (D := D) (ci := 10) (v := .int 0) (ty := .int) (C := RX10) (T := TX10) (N := 81) hx hb hts inX10 tyX10 tyX10_ok nmX10 hown hK hP hD hS 0 rfl rfl 0 (by decide) (hts _ b_1314) (fun _ h9 => h9) rfl (by decide +kernel) rfl rfl (Nat.le_of_ble_eq_true rfl) dX10_reached_2 (fun H locs hP hD hS => ?_)
  have hP : va_P D k_cl [(a, .inr (10, (mfs ad)))] H := hP
  have hD : va_D A [(a, .inr (10, (mfs ad)))] := hD
  refine lv_aload_n hx hb dX10_reached_5 rfl (lv_at hl 0 rfl) ?_
  refine lv_iload_n hx hb dX10_reached_6 rfl (lv_at hl 1 rfl) ?_
  refine k_RV (As := [.int k]) (rest := []) (ci := 10) (q0 := 0) ⟨hx, hb, hml, hown, hts⟩ (m_isNode l D E a ad k) b_1646 b_1648 b_52 b_88 b_1649 ⟨rfl, hd_X10_isNode⟩ ⟨⟨by decide, by decide⟩, by decide, by decide⟩ hK hP [0] rfl rfl rfl rfl hl.1 (Nat.le_of_ble_eq_true rfl) dX10_reached_7 ?_
  refine lv_if_eq (tgt := 17) hx hb dX10_reached_10 (by decide) (fun _ => ?_) (fun h9 => absurd (by decide) h9)
  refine lv_iconst (v := -1) hx hb dX10_reached_17 (by decide) ?_
  exact m_i () hx hb hr hlocks rfl trivial (hP.sub [0] rfl) (hD.sub [0] (by decide) rfl) hS (by decide) (by decide) dX10_reached_18
set_option maxRecDepth 20000 in
set_option maxHeartbeats 2000000 in
theorem m_total_0 (l : Launch) (D : va_G) (E : Nat → ClassId) (sa : Nat → Nat) (a : Nat) (ad : Nat → Nat) : KM l yX10_total (.code yX10_total cX10_total 4 (some .int)) 12 400 0 0 D E sa [.ref a, .int 0] [(a, .inr (10, (mfs ad)))] (S := Unit) (fun _ => some (.int 0)) (fun _ => True) (fun _ => [(a, .inr (10, (mfs ad)))]) := by
  refine KM.of (by decide) (Nat.le_of_ble_eq_true rfl) ?_
  intro p e s m below meth c A ls hx hb hr hts hml hown hlocks hnm hK hP hD hA hS hZ hl
  have hown : s.vm.findClass RX10 = some m.cls := hown
  have hl : lv_has ls 4 [(0, .ref a), (1, .int 0)] := hl
  refine lv_aload_n hx hb dX10_total_0 rfl (lv_at hl 0 rfl) ?_
  refine lv_iconst (v := 0) hx hb dX10_total_1 (by decide) ?_
  refine va_put (D := D) (ci := 10) (v := .int 0) (ty := .int) (C := RX10) (T := TX10) (N := 81) hx hb hts inX10 tyX10 tyX10_ok nmX10 hown hK hP hD hS 0 rfl rfl 0 (by decide) (hts _ b_1314) (fun _ h9 => h9) rfl (by decide +kernel) rfl rfl (Nat.le_of_ble_eq_true rfl) dX10_total_2 (fun H locs hP hD hS => ?_)
  have hP : va_P D k_cl [(a, .inr (10, (mfs ad)))] H := hP
  have hD : va_D A [(a, .inr (10, (mfs ad)))] := hD
  refine lv_iconst (v := 0) hx hb dX10_total_5 (by decide) ?_
  refine lv_istore_n (lv' := [(2, .int 0), (0, .ref a), (1, .int 0)]) hx hb dX10_total_6 rfl hl (by decide) rfl (fun ls hl => ?_)
  refine lv_iload_n hx hb dX10_total_7 rfl (lv_at hl 2 rfl) ?_
  refine lv_tableIn (off := 52) (tgt := 60) hx hb dX10_total_8 (by decide) (by decide) (by decide) (by decide) ?_
  refine lv_aload_n hx hb dX10_total_60 rfl (lv_at hl 1 rfl) ?_
  refine va_get (D := D) (ci := 10) (v := .int 0) (C := RX10) (T := TX10) (N := 81) hx hb hts inX10 hown hK hP 0 rfl rfl 1 (by decide) (hts _ b_1315) (fun _ h9 => h9) rfl dX10_total_61 ?_
  exact m_i () hx hb hr hlocks rfl trivial (hP.sub [0] rfl) (hD.sub [0] (by decide) rfl) hS (by decide) (by decide) dX10_total_64
set_option maxRecDepth 20000 in
set_option maxHeartbeats 2000000 in
theorem m_total_1 (l : Launch) (D : va_G) (E : Nat → ClassId) (sa : Nat → Nat) (a : Nat) (ad : Nat → Nat) : KM l yX10_total (.code yX10_total cX10_total 4 (some .int)) 12 400 0 0 D E sa [.ref a, .int 1] [(a, .inr (10, (mfs ad)))] (S := Unit) (fun _ => some (.int 0)) (fun _ => True) (fun _ => [(a, .inr (10, (mfs ad)))]) := by
  refine KM.of (by decide) (Nat.le_of_ble_eq_true rfl) ?_
  intro p e s m below meth c A ls hx hb hr hts hml hown hlocks hnm hK hP hD hA hS hZ hl
  have hown : s.vm.findClass RX10 = some m.cls := hown
  have hl : lv_has ls 4 [(0, .ref a), (1, .int 1)] := hl
  refine lv_aload_n hx hb dX10_total_0 rfl (lv_at hl 0 rfl) ?_
  refine lv_iconst (v := 0) hx hb dX10_total_1 (by decide) ?_
  refine va_put (D := D) (ci := 10) (v := .int 0) (ty := .int) (C := RX10) (T := TX10) (N := 81) hx hb hts inX10 tyX10 tyX10_ok nmX10 hown hK hP hD hS 0 rfl rfl 0 (by decide) (hts _ b_1314) (fun _ h9 => h9) rfl (by decide +kernel) rfl rfl (Nat.le_of_ble_eq_true rfl) dX10_total_2 (fun H locs hP hD hS => ?_)
  have hP : va_P D k_cl [(a, .inr (10, (mfs ad)))] H := hP
  have hD : va_D A [(a, .inr (10, (mfs ad)))] := hD
  refine lv_iconst (v := 0) hx hb dX10_total_5 (by decide) ?_
  refine lv_istore_n (lv' := [(2, .int 0), (0, .ref a), (1, .int 1)]) hx hb dX10_total_6 rfl hl (by decide) rfl (fun ls hl => ?_)
  refine lv_iload_n hx hb dX10_total_7 rfl (lv_at hl 2 rfl) ?_
  refine lv_tableIn (off := 57) (tgt := 65) hx hb dX10_total_8 (by decide) (by decide) (by decide) (by decide) ?_
  refine lv_aload_n hx hb dX10_total_65 rfl (lv_at hl 1 rfl) ?_
  refine va_get (D := D) (ci := 10) (v := .int 0) (C := RX10) (T := TX10) (N := 81) hx hb hts inX10 hown hK hP 0 rfl rfl 5 (by decide) (hts _ b_1319) (fun _ h9 => h9) rfl dX10_total_66 ?_
  exact m_i () hx hb hr hlocks rfl trivial (hP.sub [0] rfl) (hD.sub [0] (by decide) rfl) hS (by decide) (by decide) dX10_total_69
set_option maxRecDepth 20000 in
set_option maxHeartbeats 2000000 in
theorem m_total_2 (l : Launch) (D : va_G) (E : Nat → ClassId) (sa : Nat → Nat) (a : Nat) (ad : Nat → Nat) : KM l yX10_total (.code yX10_total cX10_total 4 (some .int)) 12 400 0 0 D E sa [.ref a, .int 2] [(a, .inr (10, (mfs ad)))] (S := Unit) (fun _ => some (.int 0)) (fun _ => True) (fun _ => [(a, .inr (10, (mfs ad)))]) := by
  refine KM.of (by decide) (Nat.le_of_ble_eq_true rfl) ?_
  intro p e s m below meth c A ls hx hb hr hts hml hown hlocks hnm hK hP hD hA hS hZ hl
  have hown : s.vm.findClass RX10 = some m.cls := hown
  have hl : lv_has ls 4 [(0, .ref a), (1, .int 2)] := hl
  refine lv_aload_n hx hb dX10_total_0 rfl (lv_at hl 0 rfl) ?_
  refine lv_iconst (v := 0) hx hb dX10_total_1 (by decide) ?_
  refine va_put (D := D) (ci := 10) (v := .int 0) (ty := .int) (C := RX10) (T := TX10) (N := 81) hx hb hts inX10 tyX10 tyX10_ok nmX10 hown hK hP hD hS 0 rfl rfl 0 (by decide) (hts _ b_1314) (fun _ h9 => h9) rfl (by decide +kernel) rfl rfl (Nat.le_of_ble_eq_true rfl) dX10_total_2 (fun H locs hP hD hS => ?_)
  have hP : va_P D k_cl [(a, .inr (10, (mfs ad)))] H := hP
  have hD : va_D A [(a, .inr (10, (mfs ad)))] := hD
  refine lv_iconst (v := 0) hx hb dX10_total_5 (by decide) ?_
  refine lv_istore_n (lv' := [(2, .int 0), (0, .ref a), (1, .int 2)]) hx hb dX10_total_6 rfl hl (by decide) rfl (fun ls hl => ?_)
  refine lv_iload_n hx hb dX10_total_7 rfl (lv_at hl 2 rfl) ?_
  refine lv_tableIn (off := 62) (tgt := 70) hx hb dX10_total_8 (by decide) (by decide) (by decide) (by decide) ?_
  refine lv_aload_n hx hb dX10_total_70 rfl (lv_at hl 1 rfl) ?_
  refine va_get (D := D) (ci := 10) (v := .int 0) (C := RX10) (T := TX10) (N := 81) hx hb hts inX10 hown hK hP 0 rfl rfl 16 (by decide) (hts _ b_1330) (fun _ h9 => h9) rfl dX10_total_71 ?_
  exact m_i () hx hb hr hlocks rfl trivial (hP.sub [0] rfl) (hD.sub [0] (by decide) rfl) hS (by decide) (by decide) dX10_total_74
set_option maxRecDepth 20000 in
set_option maxHeartbeats 2000000 in
theorem m_total_3 (l : Launch) (D : va_G) (E : Nat → ClassId) (sa : Nat → Nat) (a : Nat) (ad : Nat → Nat) : KM l yX10_total (.code yX10_total cX10_total 4 (some .int)) 12 400 0 0 D E sa [.ref a, .int 3] [(a, .inr (10, (mfs ad)))] (S := Unit) (fun _ => some (.int 0)) (fun _ => True) (fun _ => [(a, .inr (10, (mfs ad)))]) := by
  refine KM.of (by decide) (Nat.le_of_ble_eq_true rfl) ?_
  intro p e s m below meth c A ls hx hb hr hts hml hown hlocks hnm hK hP hD hA hS hZ hl
  have hown : s.vm.findClass RX10 = some m.cls := hown
  have hl : lv_has ls 4 [(0, .ref a), (1, .int 3)] := hl
  refine lv_aload_n hx hb dX10_total_0 rfl (lv_at hl 0 rfl) ?_
  refine lv_iconst (v := 0) hx hb dX10_total_1 (by decide) ?_
  refine va_put (D := D) (ci := 10) (v := .int 0) (ty := .int) (C := RX10) (T := TX10) (N := 81) hx hb hts inX10 tyX10 tyX10_ok nmX10 hown hK hP hD hS 0 rfl rfl 0 (by decide) (hts _ b_1314) (fun _ h9 => h9) rfl (by decide +kernel) rfl rfl (Nat.le_of_ble_eq_true rfl) dX10_total_2 (fun H locs hP hD hS => ?_)
  have hP : va_P D k_cl [(a, .inr (10, (mfs ad)))] H := hP
  have hD : va_D A [(a, .inr (10, (mfs ad)))] := hD
  refine lv_iconst (v := 0) hx hb dX10_total_5 (by decide) ?_
  refine lv_istore_n (lv' := [(2, .int 0), (0, .ref a), (1, .int 3)]) hx hb dX10_total_6 rfl hl (by decide) rfl (fun ls hl => ?_)
  refine lv_iload_n hx hb dX10_total_7 rfl (lv_at hl 2 rfl) ?_
  refine lv_tableIn (off := 67) (tgt := 75) hx hb dX10_total_8 (by decide) (by decide) (by decide) (by decide) ?_
  refine lv_aload_n hx hb dX10_total_75 rfl (lv_at hl 1 rfl) ?_
  refine va_get (D := D) (ci := 10) (v := .int 0) (C := RX10) (T := TX10) (N := 81) hx hb hts inX10 hown hK hP 0 rfl rfl 14 (by decide) (hts _ b_1328) (fun _ h9 => h9) rfl dX10_total_76 ?_
  exact m_i () hx hb hr hlocks rfl trivial (hP.sub [0] rfl) (hD.sub [0] (by decide) rfl) hS (by decide) (by decide) dX10_total_79
set_option maxRecDepth 20000 in
set_option maxHeartbeats 2000000 in
theorem m_total_4 (l : Launch) (D : va_G) (E : Nat → ClassId) (sa : Nat → Nat) (a : Nat) (ad : Nat → Nat) : KM l yX10_total (.code yX10_total cX10_total 4 (some .int)) 12 400 0 0 D E sa [.ref a, .int 4] [(a, .inr (10, (mfs ad)))] (S := Unit) (fun _ => some (.int 0)) (fun _ => True) (fun _ => [(a, .inr (10, (mfs ad)))]) := by
  refine KM.of (by decide) (Nat.le_of_ble_eq_true rfl) ?_
  intro p e s m below meth c A ls hx hb hr hts hml hown hlocks hnm hK hP hD hA hS hZ hl
  have hown : s.vm.findClass RX10 = some m.cls := hown
  have hl : lv_has ls 4 [(0, .ref a), (1, .int 4)] := hl
  refine lv_aload_n hx hb dX10_total_0 rfl (lv_at hl 0 rfl) ?_
  refine lv_iconst (v := 0) hx hb dX10_total_1 (by decide) ?_
  refine va_put (D := D) (ci := 10) (v := .int 0) (ty := .int) (C := RX10) (T := TX10) (N := 81) hx hb hts inX10 tyX10 tyX10_ok nmX10 hown hK hP hD hS 0 rfl rfl 0 (by decide) (hts _ b_1314) (fun _ h9 => h9) rfl (by decide +kernel) rfl rfl (Nat.le_of_ble_eq_true rfl) dX10_total_2 (fun H locs hP hD hS => ?_)
  have hP : va_P D k_cl [(a, .inr (10, (mfs ad)))] H := hP
  have hD : va_D A [(a, .inr (10, (mfs ad)))] := hD
  refine lv_iconst (v := 0) hx hb dX10_total_5 (by decide) ?_
  refine lv_istore_n (lv' := [(2, .int 0), (0, .ref a), (1, .int 4)]) hx hb dX10_total_6 rfl hl (by decide) rfl (fun ls hl => ?_)
  refine lv_iload_n hx hb dX10_total_7 rfl (lv_at hl 2 rfl) ?_
  refine lv_tableIn (off := 72) (tgt := 80) hx hb dX10_total_8 (by decide) (by decide) (by decide) (by decide) ?_
  refine lv_aload_n hx hb dX10_total_80 rfl (lv_at hl 1 rfl) ?_
  refine va_get (D := D) (ci := 10) (v := .int 0) (C := RX10) (T := TX10) (N := 81) hx hb hts inX10 hown hK hP 0 rfl rfl 10 (by decide) (hts _ b_1324) (fun _ h9 => h9) rfl dX10_total_81 ?_
  exact m_i () hx hb hr hlocks rfl trivial (hP.sub [0] rfl) (hD.sub [0] (by decide) rfl) hS (by decide) (by decide) dX10_total_84
set_option maxRecDepth 20000 in
set_option maxHeartbeats 2000000 in
theorem m_total_5 (l : Launch) (D : va_G) (E : Nat → ClassId) (sa : Nat → Nat) (a : Nat) (ad : Nat → Nat) : KM l yX10_total (.code yX10_total cX10_total 4 (some .int)) 12 400 0 0 D E sa [.ref a, .int 5] [(a, .inr (10, (mfs ad)))] (S := Unit) (fun _ => some (.int 0)) (fun _ => True) (fun _ => [(a, .inr (10, (mfs ad)))]) := by
  refine KM.of (by decide) (Nat.le_of_ble_eq_true rfl) ?_
  intro p e s m below meth c A ls hx hb hr hts hml hown hlocks hnm hK hP hD hA hS hZ hl
  have hown : s.vm.findClass RX10 = some m.cls := hown
  have hl : lv_has ls 4 [(0, .ref a), (1, .int 5)] := hl
  refine lv_aload_n hx hb dX10_total_0 rfl (lv_at hl 0 rfl) ?_
  refine lv_iconst (v := 0) hx hb dX10_total_1 (by decide) ?_
  refine va_put (D := D) (ci := 10) (v := .int 0) (ty := .int) (C := RX10) (T := TX10) (N := 81) hx hb hts inX10 tyX10 tyX10_ok nmX10 hown hK hP hD hS 0 rfl rfl 0 (by decide) (hts _ b_1314) (fun _ h9 => h9) rfl (by decide +kernel) rfl rfl (Nat.le_of_ble_eq_true rfl) dX10_total_2 (fun H locs hP hD hS => ?_)
  have hP : va_P D k_cl [(a, .inr (10, (mfs ad)))] H := hP
  have hD : va_D A [(a, .inr (10, (mfs ad)))] := hD
  refine lv_iconst (v := 0) hx hb dX10_total_5 (by decide) ?_
  refine lv_istore_n (lv' := [(2, .int 0), (0, .ref a), (1, .int 5)]) hx hb dX10_total_6 rfl hl (by decide) rfl (fun ls hl => ?_)
  refine lv_iload_n hx hb dX10_total_7 rfl (lv_at hl 2 rfl) ?_
  refine lv_tableIn (off := 77) (tgt := 85) hx hb dX10_total_8 (by decide) (by decide) (by decide) (by decide) ?_
  refine lv_aload_n hx hb dX10_total_85 rfl (lv_at hl 1 rfl) ?_
  refine va_get (D := D) (ci := 10) (v := .int 0) (C := RX10) (T := TX10) (N := 81) hx hb hts inX10 hown hK hP 0 rfl rfl 12 (by decide) (hts _ b_1326) (fun _ h9 => h9) rfl dX10_total_86 ?_
  exact m_i () hx hb hr hlocks rfl trivial (hP.sub [0] rfl) (hD.sub [0] (by decide) rfl) hS (by decide) (by decide) dX10_total_89
set_option maxRecDepth 20000 in
set_option maxHeartbeats 2000000 in
theorem m_total_6 (l : Launch) (D : va_G) (E : Nat → ClassId) (sa : Nat → Nat) (a : Nat) (ad : Nat → Nat) : KM l yX10_total (.code yX10_total cX10_total 4 (some .int)) 12 400 0 0 D E sa [.ref a, .int 6] [(a, .inr (10, (mfs ad)))] (S := Unit) (fun _ => some (.int 0)) (fun _ => True) (fun _ => [(a, .inr (10, (mfs ad)))]) := by
  refine KM.of (by decide) (Nat.le_of_ble_eq_true rfl) ?_
  intro p e s m below meth c A ls hx hb hr hts hml hown hlocks hnm hK hP hD hA hS hZ hl
  have hown : s.vm.findClass RX10 = some m.cls := hown
  have hl : lv_has ls 4 [(0, .ref a), (1, .int 6)] := hl
  refine lv_aload_n hx hb dX10_total_0 rfl (lv_at hl 0 rfl) ?_
  refine lv_iconst (v := 0) hx hb dX10_total_1 (by decide) ?_
  refine va_put (D := D) (ci := 10) (v := .int 0) (ty := .int) (C := RX10) (T := TX10) (N := 81) hx hb hts inX10 tyX10 tyX10_ok nmX10 hown hK hP hD hS 0 rfl rfl 0 (by decide) (hts _ b_1314) (fun _ h9 => h9) rfl (by decide +kernel) rfl rfl (Nat.le_of_ble_eq_true rfl) dX10_total_2 (fun H locs hP hD hS => ?_)
  have hP : va_P D k_cl [(a, .inr (10, (mfs ad)))] H := hP
  have hD : va_D A [(a, .inr (10, (mfs ad)))] := hD
  refine lv_iconst (v := 0) hx hb dX10_total_5 (by decide) ?_
  refine lv_istore_n (lv' := [(2, .int 0), (0, .ref a), (1, .int 6)]) hx hb dX10_total_6 rfl hl (by decide) rfl (fun ls hl => ?_)
  refine lv_iload_n hx hb dX10_total_7 rfl (lv_at hl 2 rfl) ?_
  refine lv_tableIn (off := 82) (tgt := 90) hx hb dX10_total_8 (by decide) (by decide) (by decide) (by decide) ?_
  refine lv_iconst (v := 0) hx hb dX10_total_90 (by decide) ?_
  refine lv_istore_n (lv' := [(3, .int 0), (2, .int 0), (0, .ref a), (1, .int 6)]) hx hb dX10_total_91 rfl hl (by decide) rfl (fun ls hl => ?_)
  refine lv_aload_n hx hb dX10_total_92 rfl (lv_at hl 2 rfl) ?_
  refine va_get (D := D) (ci := 10) (v := .int 0) (C := RX10) (T := TX10) (N := 81) hx hb hts inX10 hown hK hP 0 rfl rfl 45 (by decide) (hts _ b_1359) (fun _ h9 => h9) rfl dX10_total_93 ?_
  refine lv_if_eq (tgt := 176) hx hb dX10_total_96 (by decide) (fun _ => ?_) (fun h9 => absurd (by decide) h9)
  refine lv_iload_n hx hb dX10_total_176 rfl (lv_at hl 1 rfl) ?_
  exact m_i () hx hb hr hlocks rfl trivial (hP.sub [0] rfl) (hD.sub [0] (by decide) rfl) hS (by decide) (by decide) dX10_total_177
set_option maxRecDepth 20000 in
set_option maxHeartbeats 2000000 in
theorem m_total_7 (l : Launch) (D : va_G) (E : Nat → ClassId) (sa : Nat → Nat) (a : Nat) (ad : Nat → Nat) : KM l yX10_total (.code yX10_total cX10_total 4 (some .int)) 12 400 0 0 D E sa [.ref a, .int 7] [(a, .inr (10, (mfs ad)))] (S := Unit) (fun _ => some (.int 0)) (fun _ => True) (fun _ => [(a, .inr (10, (mfs ad)))]) := by
  refine KM.of (by decide) (Nat.le_of_ble_eq_true rfl) ?_
  intro p e s m below meth c A ls hx hb hr hts hml hown hlocks hnm hK hP hD hA hS hZ hl
  have hown : s.vm.findClass RX10 = some m.cls := hown
  have hl : lv_has ls 4 [(0, .ref a), (1, .int 7)] := hl
  refine lv_aload_n hx hb dX10_total_0 rfl (lv_at hl 0 rfl) ?_
  refine lv_iconst (v := 0) hx hb dX10_total_1 (by decide) ?_
  refine va_put (D := D) (ci := 10) (v := .int 0) (ty := .int) (C := RX10) (T := TX10) (N := 81) hx hb hts inX10 tyX10 tyX10_ok nmX10 hown hK hP hD hS 0 rfl rfl 0 (by decide) (hts _ b_1314) (fun _ h9 => h9) rfl (by decide +kernel) rfl rfl (Nat.le_of_ble_eq_true rfl) dX10_total_2 (fun H locs hP hD hS => ?_)
  have hP : va_P D k_cl [(a, .inr (10, (mfs ad)))] H := hP
  have hD : va_D A [(a, .inr (10, (mfs ad)))] := hD
  refine lv_iconst (v := 0) hx hb dX10_total_5 (by decide) ?_
  refine lv_istore_n (lv' := [(2, .int 0), (0, .ref a), (1, .int 7)]) hx hb dX10_total_6 rfl hl (by decide) rfl (fun ls hl => ?_)
  refine lv_iload_n hx hb dX10_total_7 rfl (lv_at hl 2 rfl) ?_
  refine lv_tableIn (off := 82) (tgt := 90) hx hb dX10_total_8 (by decide) (by decide) (by decide) (by decide) ?_
  refine lv_iconst (v := 0) hx hb dX10_total_90 (by decide) ?_
  refine lv_istore_n (lv' := [(3, .int 0), (2, .int 0), (0, .ref a), (1, .int 7)]) hx hb dX10_total_91 rfl hl (by decide) rfl (fun ls hl => ?_)
  refine lv_aload_n hx hb dX10_total_92 rfl (lv_at hl 2 rfl) ?_
  refine va_get (D := D) (ci := 10) (v := .int 0) (C := RX10) (T := TX10) (N := 81) hx hb hts inX10 hown hK hP 0 rfl rfl 45 (by decide) (hts _ b_1359) (fun _ h9 => h9) rfl dX10_total_93 ?_
  refine lv_if_eq (tgt := 176) hx hb dX10_total_96 (by decide) (fun _ => ?_) (fun h9 => absurd (by decide) h9)
  refine lv_iload_n hx hb dX10_total_176 rfl (lv_at hl 1 rfl) ?_
  exact m_i () hx hb hr hlocks rfl trivial (hP.sub [0] rfl) (hD.sub [0] (by decide) rfl) hS (by decide) (by decide) dX10_total_177
set_option maxRecDepth 20000 in
set_option maxHeartbeats 2000000 in
theorem m_total_8 (l : Launch) (D : va_G) (E : Nat → ClassId) (sa : Nat → Nat) (a : Nat) (ad : Nat → Nat) : KM l yX10_total (.code yX10_total cX10_total 4 (some .int)) 12 400 0 0 D E sa [.ref a, .int 8] [(a, .inr (10, (mfs ad)))] (S := Unit) (fun _ => some (.int 0)) (fun _ => True) (fun _ => [(a, .inr (10, (mfs ad)))]) := by
  refine KM.of (by decide) (Nat.le_of_ble_eq_true rfl) ?_
  intro p e s m below meth c A ls hx hb hr hts hml hown hlocks hnm hK hP hD hA hS hZ hl
  have hown : s.vm.findClass RX10 = some m.cls := hown
  have hl : lv_has ls 4 [(0, .ref a), (1, .int 8)] := hl
  refine lv_aload_n hx hb dX10_total_0 rfl (lv_at hl 0 rfl) ?_
  refine lv_iconst (v := 0) hx hb dX10_total_1 (by decide) ?_
  refine va_put (D := D) (ci := 10) (v := .int 0) (ty := .int) (C := RX10) (T := TX10) (N := 81) hx hb hts inX10 tyX10 tyX10_ok nmX10 hown hK hP hD hS 0 rfl rfl 0 (by decide) (hts _ b_1314) (fun _ h9 => h9) rfl (by decide +kernel) rfl rfl (Nat.le_of_ble_eq_true rfl) dX10_total_2 (fun H locs hP hD hS => ?_)
  have hP : va_P D k_cl [(a, .inr (10, (mfs ad)))] H := hP
  have hD : va_D A [(a, .inr (10, (mfs ad)))] := hD
  refine lv_iconst (v := 0) hx hb dX10_total_5 (by decide) ?_
  refine lv_istore_n (lv' := [(2, .int 0), (0, .ref a), (1, .int 8)]) hx hb dX10_total_6 rfl hl (by decide) rfl (fun ls hl => ?_)
  refine lv_iload_n hx hb dX10_total_7 rfl (lv_at hl 2 rfl) ?_
  refine lv_tableIn (off := 170) (tgt := 178) hx hb dX10_total_8 (by decide) (by decide) (by decide) (by decide) ?_
  refine lv_aload_n hx hb dX10_total_178 rfl (lv_at hl 1 rfl) ?_
  refine va_get (D := D) (ci := 10) (v := .int 0) (C := RX10) (T := TX10) (N := 81) hx hb hts inX10 hown hK hP 0 rfl rfl 34 (by decide) (hts _ b_1348) (fun _ h9 => h9) rfl dX10_total_179 ?_
  exact m_i () hx hb hr hlocks rfl trivial (hP.sub [0] rfl) (hD.sub [0] (by decide) rfl) hS (by decide) (by decide) dX10_total_182
set_option maxRecDepth 20000 in
set_option maxHeartbeats 2000000 in
theorem m_total_out (l : Launch) (D : va_G) (E : Nat → ClassId) (sa : Nat → Nat) (a : Nat) (ad : Nat → Nat) (k : Int32) (h : k.toInt < 0 ∨ 8 < k.toInt) : KM l yX10_total (.code yX10_total cX10_total 4 (some .int)) 12 400 0 0 D E sa [.ref a, .int k] [(a, .inr (10, (mfs ad)))] (S := Unit) (fun _ => some (.int (-1))) (fun _ => True) (fun _ => [(a, .inr (10, (mfs ad)))]) := by
  refine KM.of (by decide) (Nat.le_of_ble_eq_true rfl) ?_
  intro p e s m below meth c A ls hx hb hr hts hml hown hlocks hnm hK hP hD hA hS hZ hl
  have hown : s.vm.findClass RX10 = some m.cls := hown
  have hl : lv_has ls 4 [(0, .ref a), (1, .int k)] := hl
  refine lv_aload_n hx hb dX10_total_0 rfl (lv_at hl 0 rfl) ?_
  refine lv_iconst (v := 0) hx hb dX10_total_1 (by decide) ?_
  refine va_put (D := D) (ci := 10) (v := .int 0) (ty := .int) (C := RX10) (T := TX10) (N := 81) hx hb hts inX10 tyX10 tyX10_ok nmX10 hown hK hP hD hS 0 rfl rfl 0 (by decide) (hts _ b_1314) (fun _ h9 => h9) rfl (by decide +kernel) rfl rfl (Nat.le_of_ble_eq_true rfl) dX10_total_2 (fun H locs hP hD hS => ?_)
  have hP : va_P D k_cl [(a, .inr (10, (mfs ad)))] H := hP
  have hD : va_D A [(a, .inr (10, (mfs ad)))] := hD
  refine lv_iconst (v := 0) hx hb dX10_total_5 (by decide) ?_
  refine lv_istore_n (lv' := [(2, .int 0), (0, .ref a), (1, .int k)]) hx hb dX10_total_6 rfl hl (by decide) rfl (fun ls hl => ?_)
  refine lv_iload_n hx hb dX10_total_7 rfl (lv_at hl 2 rfl) ?_
  refine lv_tableOut (tgt := 183) hx hb dX10_total_8 (h) (by decide) ?_
  refine lv_iconst (v := -1) hx hb dX10_total_183 (by decide) ?_
  exact m_i () hx hb hr hlocks rfl trivial (hP.sub [0] rfl) (hD.sub [0] (by decide) rfl) hS (by decide) (by decide) dX10_total_184
set_option maxRecDepth 20000 in
set_option maxHeartbeats 2000000 in
theorem m_factors_1 (l : Launch) (D : va_G) (E : Nat → ClassId) (sa : Nat → Nat) (a : Nat) (ad : Nat → Nat) (f0 : Int32) (f1 : Int32) (f2 : Int32) (fa : Nat → Int32) (h0 : ((0 : Int32) ≤ f0 ∧ f0 ≤ 9)) (h1 : ((0 : Int32) ≤ f1 ∧ f1 ≤ 9)) (h2 : ((0 : Int32) ≤ f2 ∧ f2 ≤ 9)) : KM l yX10_factors (.code yX10_factors cX10_factors 5 (some .int)) 12 400 0 0 D E sa [.ref a, .int f0, .int f1, .int f2] [(a, .inr (10, (mfs ad))), ((ad 13), .inl (E 0, 3, .inl fa))] (S := Unit) (fun _ => some (.int 1)) (fun _ => True) (fun _ => [(a, .inr (10, (mfs ad)))]) := by
  refine KM.of (by decide) (Nat.le_of_ble_eq_true rfl) ?_
  intro p e s m below meth c A ls hx hb hr hts hml hown hlocks hnm hK hP hD hA hS hZ hl
  have hown : s.vm.findClass RX10 = some m.cls := hown
  have hl : lv_has ls 5 [(0, .ref a), (1, .int f0), (2, .int f1), (3, .int f2)] := hl
  refine lv_aload_n hx hb dX10_factors_0 rfl (lv_at hl 0 rfl) ?_
  refine lv_iconst (v := 0) hx hb dX10_factors_1 (by decide) ?_
  refine va_put (D := D) (ci := 10) (v := .int 0) (ty := .int) (C := RX10) (T := TX10) (N := 81) hx hb hts inX10 tyX10 tyX10_ok nmX10 hown hK hP hD hS 0 rfl rfl 0 (by decide) (hts _ b_1314) (fun _ h9 => h9) rfl (by decide +kernel) rfl rfl (Nat.le_of_ble_eq_true rfl) dX10_factors_2 (fun H locs hP hD hS => ?_)
  have hP : va_P D k_cl [(a, .inr (10, (mfs ad))), ((ad 13), .inl (E 0, 3, .inl fa))] H := hP
  have hD : va_D A [(a, .inr (10, (mfs ad))), ((ad 13), .inl (E 0, 3, .inl fa))] := hD
  refine lv_iload_n hx hb dX10_factors_5 rfl (lv_at hl 1 rfl) ?_
  refine lv_if_lt (tgt := 39) hx hb dX10_factors_6 (by decide) (fun h9 => absurd h9 (Int32.not_lt.mpr h0.1)) (fun _ => ?_)
  refine lv_iload_n hx hb dX10_factors_9 rfl (lv_at hl 1 rfl) ?_
  refine lv_bipush (v := 9) hx hb dX10_factors_10 (by decide) ?_
  refine lv_icmp_gt (tgt := 39) hx hb dX10_factors_12 (by decide) (fun h9 => absurd h9 (Int32.not_lt.mpr h0.2)) (fun _ => ?_)
  refine lv_iload_n hx hb dX10_factors_15 rfl (lv_at hl 2 rfl) ?_
  refine lv_if_lt (tgt := 39) hx hb dX10_factors_16 (by decide) (fun h9 => absurd h9 (Int32.not_lt.mpr h1.1)) (fun _ => ?_)
  refine lv_iload_n hx hb dX10_factors_19 rfl (lv_at hl 2 rfl) ?_
  refine lv_bipush (v := 9) hx hb dX10_factors_20 (by decide) ?_
  refine lv_icmp_gt (tgt := 39) hx hb dX10_factors_22 (by decide) (fun h9 => absurd h9 (Int32.not_lt.mpr h1.2)) (fun _ => ?_)
  refine lv_iload_n hx hb dX10_factors_25 rfl (lv_at hl 3 rfl) ?_
  refine lv_if_lt (tgt := 39) hx hb dX10_factors_26 (by decide) (fun h9 => absurd h9 (Int32.not_lt.mpr h2.1)) (fun _ => ?_)
  refine lv_iload_n hx hb dX10_factors_29 rfl (lv_at hl 3 rfl) ?_
  refine lv_bipush (v := 9) hx hb dX10_factors_30 (by decide) ?_
  refine lv_icmp_gt (tgt := 39) hx hb dX10_factors_32 (by decide) (fun h9 => absurd h9 (Int32.not_lt.mpr h2.2)) (fun _ => ?_)
  refine lv_iconst (v := 1) hx hb dX10_factors_35 (by decide) ?_
  refine lv_goto (tgt := 40) hx hb dX10_factors_36 (by decide) ?_
  refine lv_istore (lv' := [(4, .int 1), (0, .ref a), (1, .int f0), (2, .int f1), (3, .int f2)]) hx hb dX10_factors_40 hl (by decide) rfl (fun ls hl => ?_)
  refine lv_iload hx hb dX10_factors_42 (lv_at hl 0 rfl) ?_
  refine lv_if_ne (tgt := 49) hx hb dX10_factors_44 (by decide) (fun _ => ?_) (fun h9 => absurd h9 (by decide))
  refine lv_aload_n hx hb dX10_factors_49 rfl (lv_at hl 1 rfl) ?_
  refine va_get (D := D) (ci := 10) (v := .ref (ad 13)) (C := RX10) (T := TX10) (N := 81) hx hb hts inX10 hown hK hP 0 rfl rfl 13 (by decide) (hts _ b_1327) (fun _ h9 => h9) rfl dX10_factors_50 ?_
  refine lv_iconst (v := 0) hx hb dX10_factors_53 (by decide) ?_
  refine lv_iload_n hx hb dX10_factors_54 rfl (lv_at hl 2 rfl) ?_
  refine va_iast hx hb hK hP hD hS 1 0 rfl rfl (by unfold vp_in; decide) dX10_factors_55 (fun H locs hP hD hS => ?_)
  have hP : va_P D k_cl [(a, .inr (10, (mfs ad))), ((ad 13), .inl (E 0, 3, .inl (upd fa (0 : Int32).toNatClampNeg f0)))] H := hP
  have hD : va_D A [(a, .inr (10, (mfs ad))), ((ad 13), .inl (E 0, 3, .inl (upd fa (0 : Int32).toNatClampNeg f0)))] := hD
  generalize (upd fa (0 : Int32).toNatClampNeg f0) = f_1 at hP hD
  refine lv_aload_n hx hb dX10_factors_56 rfl (lv_at hl 1 rfl) ?_
  refine va_get (D := D) (ci := 10) (v := .ref (ad 13)) (C := RX10) (T := TX10) (N := 81) hx hb hts inX10 hown hK hP 0 rfl rfl 13 (by decide) (hts _ b_1327) (fun _ h9 => h9) rfl dX10_factors_57 ?_
  refine lv_iconst (v := 1) hx hb dX10_factors_60 (by decide) ?_
  refine lv_iload_n hx hb dX10_factors_61 rfl (lv_at hl 3 rfl) ?_
  refine va_iast hx hb hK hP hD hS 1 0 rfl rfl (by unfold vp_in; decide) dX10_factors_62 (fun H locs hP hD hS => ?_)
  have hP : va_P D k_cl [(a, .inr (10, (mfs ad))), ((ad 13), .inl (E 0, 3, .inl (upd f_1 (1 : Int32).toNatClampNeg f1)))] H := hP
  have hD : va_D A [(a, .inr (10, (mfs ad))), ((ad 13), .inl (E 0, 3, .inl (upd f_1 (1 : Int32).toNatClampNeg f1)))] := hD
  generalize (upd f_1 (1 : Int32).toNatClampNeg f1) = f_2 at hP hD
  refine lv_aload_n hx hb dX10_factors_63 rfl (lv_at hl 1 rfl) ?_
  refine va_get (D := D) (ci := 10) (v := .ref (ad 13)) (C := RX10) (T := TX10) (N := 81) hx hb hts inX10 hown hK hP 0 rfl rfl 13 (by decide) (hts _ b_1327) (fun _ h9 => h9) rfl dX10_factors_64 ?_
  refine lv_iconst (v := 2) hx hb dX10_factors_67 (by decide) ?_
  refine lv_iload_n hx hb dX10_factors_68 rfl (lv_at hl 4 rfl) ?_
  refine va_iast hx hb hK hP hD hS 1 0 rfl rfl (by unfold vp_in; decide) dX10_factors_69 (fun H locs hP hD hS => ?_)
  have hP : va_P D k_cl [(a, .inr (10, (mfs ad))), ((ad 13), .inl (E 0, 3, .inl (upd f_2 (2 : Int32).toNatClampNeg f2)))] H := hP
  have hD : va_D A [(a, .inr (10, (mfs ad))), ((ad 13), .inl (E 0, 3, .inl (upd f_2 (2 : Int32).toNatClampNeg f2)))] := hD
  generalize (upd f_2 (2 : Int32).toNatClampNeg f2) = f_3 at hP hD
  refine lv_iconst (v := 1) hx hb dX10_factors_70 (by decide) ?_
  exact m_i () hx hb hr hlocks rfl trivial (hP.sub [0] rfl) (hD.sub [0] (by decide) rfl) hS (by decide) (by decide) dX10_factors_71
set_option maxRecDepth 20000 in
set_option maxHeartbeats 2000000 in
theorem m_factors_a (l : Launch) (D : va_G) (E : Nat → ClassId) (sa : Nat → Nat) (a : Nat) (ad : Nat → Nat) (f0 : Int32) (f1 : Int32) (f2 : Int32) (h0 : ¬ ((0 : Int32) ≤ f0 ∧ f0 ≤ 9)) : KM l yX10_factors (.code yX10_factors cX10_factors 5 (some .int)) 12 400 0 0 D E sa [.ref a, .int f0, .int f1, .int f2] [(a, .inr (10, (mfs ad)))] (S := Unit) (fun _ => some (.int 0)) (fun _ => True) (fun _ => [(a, .inr (10, (mfs ad)))]) := by
  refine KM.of (by decide) (Nat.le_of_ble_eq_true rfl) ?_
  intro p e s m below meth c A ls hx hb hr hts hml hown hlocks hnm hK hP hD hA hS hZ hl
  have hown : s.vm.findClass RX10 = some m.cls := hown
  have hl : lv_has ls 5 [(0, .ref a), (1, .int f0), (2, .int f1), (3, .int f2)] := hl
  refine lv_aload_n hx hb dX10_factors_0 rfl (lv_at hl 0 rfl) ?_
  refine lv_iconst (v := 0) hx hb dX10_factors_1 (by decide) ?_
  refine va_put (D := D) (ci := 10) (v := .int 0) (ty := .int) (C := RX10) (T := TX10) (N := 81) hx hb hts inX10 tyX10 tyX10_ok nmX10 hown hK hP hD hS 0 rfl rfl 0 (by decide) (hts _ b_1314) (fun _ h9 => h9) rfl (by decide +kernel) rfl rfl (Nat.le_of_ble_eq_true rfl) dX10_factors_2 (fun H locs hP hD hS => ?_)
  have hP : va_P D k_cl [(a, .inr (10, (mfs ad)))] H := hP
  have hD : va_D A [(a, .inr (10, (mfs ad)))] := hD
  refine lv_iload_n hx hb dX10_factors_5 rfl (lv_at hl 1 rfl) ?_
  refine lv_if_lt (tgt := 39) hx hb dX10_factors_6 (by decide) (fun c1 => ?_) (fun c1 => ?_)
  · refine lv_iconst (v := 0) hx hb dX10_factors_39 (by decide) ?_
    refine lv_istore (lv' := [(4, .int 0), (0, .ref a), (1, .int f0), (2, .int f1), (3, .int f2)]) hx hb dX10_factors_40 hl (by decide) rfl (fun ls hl => ?_)
    refine lv_iload hx hb dX10_factors_42 (lv_at hl 0 rfl) ?_
    refine lv_if_ne (tgt := 49) hx hb dX10_factors_44 (by decide) (fun h9 => absurd (by decide) h9) (fun _ => ?_)
    refine lv_iconst (v := 0) hx hb dX10_factors_47 (by decide) ?_
    exact m_i () hx hb hr hlocks rfl trivial (hP.sub [0] rfl) (hD.sub [0] (by decide) rfl) hS (by decide) (by decide) dX10_factors_48
  · refine lv_iload_n hx hb dX10_factors_9 rfl (lv_at hl 1 rfl) ?_
    refine lv_bipush (v := 9) hx hb dX10_factors_10 (by decide) ?_
    refine lv_icmp_gt (tgt := 39) hx hb dX10_factors_12 (by decide) (fun _ => ?_) (fun h9 => absurd (Int32.not_le.mp (fun h8 => h0 ⟨Int32.not_lt.mp c1, h8⟩)) h9)
    refine lv_iconst (v := 0) hx hb dX10_factors_39 (by decide) ?_
    refine lv_istore (lv' := [(4, .int 0), (0, .ref a), (1, .int f0), (2, .int f1), (3, .int f2)]) hx hb dX10_factors_40 hl (by decide) rfl (fun ls hl => ?_)
    refine lv_iload hx hb dX10_factors_42 (lv_at hl 0 rfl) ?_
    refine lv_if_ne (tgt := 49) hx hb dX10_factors_44 (by decide) (fun h9 => absurd (by decide) h9) (fun _ => ?_)
    refine lv_iconst (v := 0) hx hb dX10_factors_47 (by decide) ?_
    exact m_i () hx hb hr hlocks rfl trivial (hP.sub [0] rfl) (hD.sub [0] (by decide) rfl) hS (by decide) (by decide) dX10_factors_48
set_option maxRecDepth 20000 in
set_option maxHeartbeats 2000000 in
theorem m_factors_b (l : Launch) (D : va_G) (E : Nat → ClassId) (sa : Nat → Nat) (a : Nat) (ad : Nat → Nat) (f0 : Int32) (f1 : Int32) (f2 : Int32) (h0 : ((0 : Int32) ≤ f0 ∧ f0 ≤ 9)) (h1 : ¬ ((0 : Int32) ≤ f1 ∧ f1 ≤ 9)) : KM l yX10_factors (.code yX10_factors cX10_factors 5 (some .int)) 12 400 0 0 D E sa [.ref a, .int f0, .int f1, .int f2] [(a, .inr (10, (mfs ad)))] (S := Unit) (fun _ => some (.int 0)) (fun _ => True) (fun _ => [(a, .inr (10, (mfs ad)))]) := by
  refine KM.of (by decide) (Nat.le_of_ble_eq_true rfl) ?_
  intro p e s m below meth c A ls hx hb hr hts hml hown hlocks hnm hK hP hD hA hS hZ hl
  have hown : s.vm.findClass RX10 = some m.cls := hown
  have hl : lv_has ls 5 [(0, .ref a), (1, .int f0), (2, .int f1), (3, .int f2)] := hl
  refine lv_aload_n hx hb dX10_factors_0 rfl (lv_at hl 0 rfl) ?_
  refine lv_iconst (v := 0) hx hb dX10_factors_1 (by decide) ?_
  refine va_put (D := D) (ci := 10) (v := .int 0) (ty := .int) (C := RX10) (T := TX10) (N := 81) hx hb hts inX10 tyX10 tyX10_ok nmX10 hown hK hP hD hS 0 rfl rfl 0 (by decide) (hts _ b_1314) (fun _ h9 => h9) rfl (by decide +kernel) rfl rfl (Nat.le_of_ble_eq_true rfl) dX10_factors_2 (fun H locs hP hD hS => ?_)
  have hP : va_P D k_cl [(a, .inr (10, (mfs ad)))] H := hP
  have hD : va_D A [(a, .inr (10, (mfs ad)))] := hD
  refine lv_iload_n hx hb dX10_factors_5 rfl (lv_at hl 1 rfl) ?_
  refine lv_if_lt (tgt := 39) hx hb dX10_factors_6 (by decide) (fun h9 => absurd h9 (Int32.not_lt.mpr h0.1)) (fun _ => ?_)
  refine lv_iload_n hx hb dX10_factors_9 rfl (lv_at hl 1 rfl) ?_
  refine lv_bipush (v := 9) hx hb dX10_factors_10 (by decide) ?_
  refine lv_icmp_gt (tgt := 39) hx hb dX10_factors_12 (by decide) (fun h9 => absurd h9 (Int32.not_lt.mpr h0.2)) (fun _ => ?_)
  refine lv_iload_n hx hb dX10_factors_15 rfl (lv_at hl 2 rfl) ?_
  refine lv_if_lt (tgt := 39) hx hb dX10_factors_16 (by decide) (fun c1 => ?_) (fun c1 => ?_)
  · refine lv_iconst (v := 0) hx hb dX10_factors_39 (by decide) ?_
    refine lv_istore (lv' := [(4, .int 0), (0, .ref a), (1, .int f0), (2, .int f1), (3, .int f2)]) hx hb dX10_factors_40 hl (by decide) rfl (fun ls hl => ?_)
    refine lv_iload hx hb dX10_factors_42 (lv_at hl 0 rfl) ?_
    refine lv_if_ne (tgt := 49) hx hb dX10_factors_44 (by decide) (fun h9 => absurd (by decide) h9) (fun _ => ?_)
    refine lv_iconst (v := 0) hx hb dX10_factors_47 (by decide) ?_
    exact m_i () hx hb hr hlocks rfl trivial (hP.sub [0] rfl) (hD.sub [0] (by decide) rfl) hS (by decide) (by decide) dX10_factors_48
  · refine lv_iload_n hx hb dX10_factors_19 rfl (lv_at hl 2 rfl) ?_
    refine lv_bipush (v := 9) hx hb dX10_factors_20 (by decide) ?_
    refine lv_icmp_gt (tgt := 39) hx hb dX10_factors_22 (by decide) (fun _ => ?_) (fun h9 => absurd (Int32.not_le.mp (fun h8 => h1 ⟨Int32.not_lt.mp c1, h8⟩)) h9)
    refine lv_iconst (v := 0) hx hb dX10_factors_39 (by decide) ?_
    refine lv_istore (lv' := [(4, .int 0), (0, .ref a), (1, .int f0), (2, .int f1), (3, .int f2)]) hx hb dX10_factors_40 hl (by decide) rfl (fun ls hl => ?_)
    refine lv_iload hx hb dX10_factors_42 (lv_at hl 0 rfl) ?_
    refine lv_if_ne (tgt := 49) hx hb dX10_factors_44 (by decide) (fun h9 => absurd (by decide) h9) (fun _ => ?_)
    refine lv_iconst (v := 0) hx hb dX10_factors_47 (by decide) ?_
    exact m_i () hx hb hr hlocks rfl trivial (hP.sub [0] rfl) (hD.sub [0] (by decide) rfl) hS (by decide) (by decide) dX10_factors_48
set_option maxRecDepth 20000 in
set_option maxHeartbeats 2000000 in
theorem m_factors_c (l : Launch) (D : va_G) (E : Nat → ClassId) (sa : Nat → Nat) (a : Nat) (ad : Nat → Nat) (f0 : Int32) (f1 : Int32) (f2 : Int32) (h0 : ((0 : Int32) ≤ f0 ∧ f0 ≤ 9)) (h1 : ((0 : Int32) ≤ f1 ∧ f1 ≤ 9)) (h2 : ¬ ((0 : Int32) ≤ f2 ∧ f2 ≤ 9)) : KM l yX10_factors (.code yX10_factors cX10_factors 5 (some .int)) 12 400 0 0 D E sa [.ref a, .int f0, .int f1, .int f2] [(a, .inr (10, (mfs ad)))] (S := Unit) (fun _ => some (.int 0)) (fun _ => True) (fun _ => [(a, .inr (10, (mfs ad)))]) := by
  refine KM.of (by decide) (Nat.le_of_ble_eq_true rfl) ?_
  intro p e s m below meth c A ls hx hb hr hts hml hown hlocks hnm hK hP hD hA hS hZ hl
  have hown : s.vm.findClass RX10 = some m.cls := hown
  have hl : lv_has ls 5 [(0, .ref a), (1, .int f0), (2, .int f1), (3, .int f2)] := hl
  refine lv_aload_n hx hb dX10_factors_0 rfl (lv_at hl 0 rfl) ?_
  refine lv_iconst (v := 0) hx hb dX10_factors_1 (by decide) ?_
  refine va_put (D := D) (ci := 10) (v := .int 0) (ty := .int) (C := RX10) (T := TX10) (N := 81) hx hb hts inX10 tyX10 tyX10_ok nmX10 hown hK hP hD hS 0 rfl rfl 0 (by decide) (hts _ b_1314) (fun _ h9 => h9) rfl (by decide +kernel) rfl rfl (Nat.le_of_ble_eq_true rfl) dX10_factors_2 (fun H locs hP hD hS => ?_)
  have hP : va_P D k_cl [(a, .inr (10, (mfs ad)))] H := hP
  have hD : va_D A [(a, .inr (10, (mfs ad)))] := hD
  refine lv_iload_n hx hb dX10_factors_5 rfl (lv_at hl 1 rfl) ?_
  refine lv_if_lt (tgt := 39) hx hb dX10_factors_6 (by decide) (fun h9 => absurd h9 (Int32.not_lt.mpr h0.1)) (fun _ => ?_)
  refine lv_iload_n hx hb dX10_factors_9 rfl (lv_at hl 1 rfl) ?_
  refine lv_bipush (v := 9) hx hb dX10_factors_10 (by decide) ?_
  refine lv_icmp_gt (tgt := 39) hx hb dX10_factors_12 (by decide) (fun h9 => absurd h9 (Int32.not_lt.mpr h0.2)) (fun _ => ?_)
  refine lv_iload_n hx hb dX10_factors_15 rfl (lv_at hl 2 rfl) ?_
  refine lv_if_lt (tgt := 39) hx hb dX10_factors_16 (by decide) (fun h9 => absurd h9 (Int32.not_lt.mpr h1.1)) (fun _ => ?_)
  refine lv_iload_n hx hb dX10_factors_19 rfl (lv_at hl 2 rfl) ?_
  refine lv_bipush (v := 9) hx hb dX10_factors_20 (by decide) ?_
  refine lv_icmp_gt (tgt := 39) hx hb dX10_factors_22 (by decide) (fun h9 => absurd h9 (Int32.not_lt.mpr h1.2)) (fun _ => ?_)
  refine lv_iload_n hx hb dX10_factors_25 rfl (lv_at hl 3 rfl) ?_
  refine lv_if_lt (tgt := 39) hx hb dX10_factors_26 (by decide) (fun c1 => ?_) (fun c1 => ?_)
  · refine lv_iconst (v := 0) hx hb dX10_factors_39 (by decide) ?_
    refine lv_istore (lv' := [(4, .int 0), (0, .ref a), (1, .int f0), (2, .int f1), (3, .int f2)]) hx hb dX10_factors_40 hl (by decide) rfl (fun ls hl => ?_)
    refine lv_iload hx hb dX10_factors_42 (lv_at hl 0 rfl) ?_
    refine lv_if_ne (tgt := 49) hx hb dX10_factors_44 (by decide) (fun h9 => absurd (by decide) h9) (fun _ => ?_)
    refine lv_iconst (v := 0) hx hb dX10_factors_47 (by decide) ?_
    exact m_i () hx hb hr hlocks rfl trivial (hP.sub [0] rfl) (hD.sub [0] (by decide) rfl) hS (by decide) (by decide) dX10_factors_48
  · refine lv_iload_n hx hb dX10_factors_29 rfl (lv_at hl 3 rfl) ?_
    refine lv_bipush (v := 9) hx hb dX10_factors_30 (by decide) ?_
    refine lv_icmp_gt (tgt := 39) hx hb dX10_factors_32 (by decide) (fun _ => ?_) (fun h9 => absurd (Int32.not_le.mp (fun h8 => h2 ⟨Int32.not_lt.mp c1, h8⟩)) h9)
    refine lv_iconst (v := 0) hx hb dX10_factors_39 (by decide) ?_
    refine lv_istore (lv' := [(4, .int 0), (0, .ref a), (1, .int f0), (2, .int f1), (3, .int f2)]) hx hb dX10_factors_40 hl (by decide) rfl (fun ls hl => ?_)
    refine lv_iload hx hb dX10_factors_42 (lv_at hl 0 rfl) ?_
    refine lv_if_ne (tgt := 49) hx hb dX10_factors_44 (by decide) (fun h9 => absurd (by decide) h9) (fun _ => ?_)
    refine lv_iconst (v := 0) hx hb dX10_factors_47 (by decide) ?_
    exact m_i () hx hb hr hlocks rfl trivial (hP.sub [0] rfl) (hD.sub [0] (by decide) rfl) hS (by decide) (by decide) dX10_factors_48
set_option maxRecDepth 20000 in
set_option maxHeartbeats 2000000 in
theorem m_prepare (l : Launch) (D : va_G) (E : Nat → ClassId) (sa : Nat → Nat) (a : Nat) (ad : Nat → Nat) : KM l yX10_prepare (.code yX10_prepare cX10_prepare 7 (some .int)) 38 1243 0 0 D E sa [.ref a] [(a, .inr (10, (mfs ad))), ((ad 24), .inl (E 3, 1296, .inl (fun _ => 0))), ((ad 49), .inl (E 3, 1296, .inl (fun _ => 0))), ((ad 54), .inl (E 3, 1296, .inl (fun _ => 0)))] (S := Unit) (fun _ => some (.int 0)) (fun _ => True) (fun _ => [(a, .inr (10, (((mfs ad).set 14 (.int 1)).set 45 (.int 1))))]) := by
  refine KM.of (by decide) (Nat.le_of_ble_eq_true rfl) ?_
  intro p e s m below meth c A ls hx hb hr hts hml hown hlocks hnm hK hP hD hA hS hZ hl
  have hown : s.vm.findClass RX10 = some m.cls := hown
  have hl : lv_has ls 7 [(0, .ref a)] := hl
  refine lv_aload_n hx hb dX10_prepare_0 rfl (lv_at hl 0 rfl) ?_
  refine lv_aload_n hx hb dX10_prepare_1 rfl (lv_at hl 0 rfl) ?_
  refine va_get (D := D) (ci := 10) (v := .int 0) (C := RX10) (T := TX10) (N := 81) hx hb hts inX10 hown hK hP 0 rfl rfl 14 (by decide) (hts _ b_1328) (fun _ h9 => h9) rfl dX10_prepare_2 ?_
  refine lv_bipush (v := 24) hx hb dX10_prepare_5 (by decide) ?_
  refine lv_icmp_ne (tgt := 14) hx hb dX10_prepare_7 (by decide) (fun _ => ?_) (fun h9 => absurd h9 (by decide))
  refine lv_iconst (v := 0) hx hb dX10_prepare_14 (by decide) ?_
  refine va_put (D := D) (ci := 10) (v := .int 0) (ty := .int) (C := RX10) (T := TX10) (N := 81) hx hb hts inX10 tyX10 tyX10_ok nmX10 hown hK hP hD hS 0 rfl rfl 0 (by decide) (hts _ b_1314) (fun _ h9 => h9) rfl (by decide +kernel) rfl rfl (Nat.le_of_ble_eq_true rfl) dX10_prepare_15 (fun H locs hP hD hS => ?_)
  have hP : va_P D k_cl [(a, .inr (10, (mfs ad))), ((ad 24), .inl (E 3, 1296, .inl (fun _ => 0))), ((ad 49), .inl (E 3, 1296, .inl (fun _ => 0))), ((ad 54), .inl (E 3, 1296, .inl (fun _ => 0)))] H := hP
  have hD : va_D A [(a, .inr (10, (mfs ad))), ((ad 24), .inl (E 3, 1296, .inl (fun _ => 0))), ((ad 49), .inl (E 3, 1296, .inl (fun _ => 0))), ((ad 54), .inl (E 3, 1296, .inl (fun _ => 0)))] := hD
  refine lv_aload_n hx hb dX10_prepare_18 rfl (lv_at hl 0 rfl) ?_
  refine va_get (D := D) (ci := 10) (v := .int 0) (C := RX10) (T := TX10) (N := 81) hx hb hts inX10 hown hK hP 0 rfl rfl 0 (by decide) (hts _ b_1314) (fun _ h9 => h9) rfl dX10_prepare_19 ?_
  refine lv_if_le (tgt := 27) hx hb dX10_prepare_22 (by decide) (fun _ => ?_) (fun h9 => absurd (by decide) h9)
  refine lv_aload_n hx hb dX10_prepare_27 rfl (lv_at hl 0 rfl) ?_
  refine k_MV (As := []) (rest := []) (ci := 10) (q0 := 0) (wr := []) ⟨hx, hb, hml, hown, hts⟩ (m_begins l D E sa a ad) b_1796 b_1798 b_66 b_88 b_1799 ⟨rfl, hd_X10_begins⟩ ⟨⟨by decide, by decide⟩, by decide, by decide⟩ hK hP hD hS hA hZ [0, 1, 2, 3] [] rfl rfl (by decide) rfl rfl rfl hl.1 (Nat.le_of_ble_eq_true rfl) dX10_prepare_28 (fun u_1 H locs hu hP hD hS _ => ?_)
  have hP : va_P D k_cl [(a, .inr (10, ((mfs ad).set 14 (.int 1))))] H := hP
  have hD : va_D A [(a, .inr (10, ((mfs ad).set 14 (.int 1))))] := hD
  refine W.eq (g2 := F0 m 31 ls []) rfl ?_
  refine lv_iconst (v := 0) hx hb dX10_prepare_31 (by decide) ?_
  refine lv_istore_n (lv' := [(1, .int 0), (0, .ref a)]) hx hb dX10_prepare_32 rfl hl (by decide) rfl (fun ls hl => ?_)
  refine lv_iconst (v := 0) hx hb dX10_prepare_33 (by decide) ?_
  refine lv_istore_n (lv' := [(2, .int 0), (1, .int 0), (0, .ref a)]) hx hb dX10_prepare_34 rfl hl (by decide) rfl (fun ls hl => ?_)
  refine lv_iload_n hx hb dX10_prepare_35 rfl (lv_at hl 0 rfl) ?_
  refine lv_aload_n hx hb dX10_prepare_36 rfl (lv_at hl 2 rfl) ?_
  refine va_get (D := D) (ci := 10) (v := .int 0) (C := RX10) (T := TX10) (N := 81) hx hb hts inX10 hown hK hP 0 rfl rfl 1 (by decide) (hts _ b_1315) (fun _ h9 => h9) rfl dX10_prepare_37 ?_
  refine lv_icmp_ge (tgt := 123) hx hb dX10_prepare_40 (by decide) (fun _ => ?_) (fun h9 => absurd (by decide) h9)
  refine lv_aload_n hx hb dX10_prepare_123 rfl (lv_at hl 2 rfl) ?_
  refine lv_iload_n hx hb dX10_prepare_124 rfl (lv_at hl 1 rfl) ?_
  refine k_MV (As := [.int 0]) (rest := []) (ci := 10) (q0 := 0) (wr := []) ⟨hx, hb, hml, hown, hts⟩ (m_ends_0 l D E sa a ad) b_1812 b_1814 b_70 b_88 b_1815 ⟨rfl, hd_X10_ends⟩ ⟨⟨by decide, by decide⟩, by decide, by decide⟩ hK hP hD hS hA hZ [0] [] rfl rfl (by decide) rfl rfl rfl hl.1 (Nat.le_of_ble_eq_true rfl) dX10_prepare_125 (fun u_2 H locs hu hP hD hS _ => ?_)
  have hP : va_P D k_cl [(a, .inr (10, (((mfs ad).set 14 (.int 1)).set 45 (.int 1))))] H := hP
  have hD : va_D A [(a, .inr (10, (((mfs ad).set 14 (.int 1)).set 45 (.int 1))))] := hD
  refine W.eq (g2 := F0 m 128 ls [.int 0]) rfl ?_
  exact m_i () hx hb hr hlocks rfl trivial (hP.sub [0] rfl) (hD.sub [0] (by decide) rfl) hS (by decide) (by decide) dX10_prepare_128
set_option maxRecDepth 20000 in
set_option maxHeartbeats 2000000 in
theorem m_prepareTold (l : Launch) (D : va_G) (E : Nat → ClassId) (sa : Nat → Nat) (a : Nat) (ad : Nat → Nat) : KM l yX10_prepareTold (.code yX10_prepareTold cX10_prepareTold 3 (some .int)) 38 1243 0 0 D E sa [.ref a] [(a, .inr (10, (mfs ad))), ((ad 24), .inl (E 3, 1296, .inl (fun _ => 0))), ((ad 49), .inl (E 3, 1296, .inl (fun _ => 0))), ((ad 54), .inl (E 3, 1296, .inl (fun _ => 0)))] (S := Unit) (fun _ => some (.int 0)) (fun _ => True) (fun _ => [(a, .inr (10, (((mfs ad).set 14 (.int 1)).set 45 (.int 1))))]) := by
  refine KM.of (by decide) (Nat.le_of_ble_eq_true rfl) ?_
  intro p e s m below meth c A ls hx hb hr hts hml hown hlocks hnm hK hP hD hA hS hZ hl
  have hown : s.vm.findClass RX10 = some m.cls := hown
  have hl : lv_has ls 3 [(0, .ref a)] := hl
  refine lv_aload_n hx hb dX10_prepareTold_0 rfl (lv_at hl 0 rfl) ?_
  refine lv_aload_n hx hb dX10_prepareTold_1 rfl (lv_at hl 0 rfl) ?_
  refine va_get (D := D) (ci := 10) (v := .int 0) (C := RX10) (T := TX10) (N := 81) hx hb hts inX10 hown hK hP 0 rfl rfl 12 (by decide) (hts _ b_1326) (fun _ h9 => h9) rfl dX10_prepareTold_2 ?_
  refine lv_aload_n hx hb dX10_prepareTold_5 rfl (lv_at hl 0 rfl) ?_
  refine va_get (D := D) (ci := 10) (v := .int 0) (C := RX10) (T := TX10) (N := 81) hx hb hts inX10 hown hK hP 0 rfl rfl 1 (by decide) (hts _ b_1315) (fun _ h9 => h9) rfl dX10_prepareTold_6 ?_
  refine lv_icmp_ge (tgt := 16) hx hb dX10_prepareTold_9 (by decide) (fun _ => ?_) (fun h9 => absurd (by decide) h9)
  refine lv_aload_n hx hb dX10_prepareTold_16 rfl (lv_at hl 0 rfl) ?_
  refine va_get (D := D) (ci := 10) (v := .int 0) (C := RX10) (T := TX10) (N := 81) hx hb hts inX10 hown hK hP 0 rfl rfl 14 (by decide) (hts _ b_1328) (fun _ h9 => h9) rfl dX10_prepareTold_17 ?_
  refine lv_bipush (v := 24) hx hb dX10_prepareTold_20 (by decide) ?_
  refine lv_icmp_ne (tgt := 29) hx hb dX10_prepareTold_22 (by decide) (fun _ => ?_) (fun h9 => absurd h9 (by decide))
  refine lv_iconst (v := 0) hx hb dX10_prepareTold_29 (by decide) ?_
  refine va_put (D := D) (ci := 10) (v := .int 0) (ty := .int) (C := RX10) (T := TX10) (N := 81) hx hb hts inX10 tyX10 tyX10_ok nmX10 hown hK hP hD hS 0 rfl rfl 0 (by decide) (hts _ b_1314) (fun _ h9 => h9) rfl (by decide +kernel) rfl rfl (Nat.le_of_ble_eq_true rfl) dX10_prepareTold_30 (fun H locs hP hD hS => ?_)
  have hP : va_P D k_cl [(a, .inr (10, (mfs ad))), ((ad 24), .inl (E 3, 1296, .inl (fun _ => 0))), ((ad 49), .inl (E 3, 1296, .inl (fun _ => 0))), ((ad 54), .inl (E 3, 1296, .inl (fun _ => 0)))] H := hP
  have hD : va_D A [(a, .inr (10, (mfs ad))), ((ad 24), .inl (E 3, 1296, .inl (fun _ => 0))), ((ad 49), .inl (E 3, 1296, .inl (fun _ => 0))), ((ad 54), .inl (E 3, 1296, .inl (fun _ => 0)))] := hD
  refine lv_aload_n hx hb dX10_prepareTold_33 rfl (lv_at hl 0 rfl) ?_
  refine va_get (D := D) (ci := 10) (v := .int 0) (C := RX10) (T := TX10) (N := 81) hx hb hts inX10 hown hK hP 0 rfl rfl 0 (by decide) (hts _ b_1314) (fun _ h9 => h9) rfl dX10_prepareTold_34 ?_
  refine lv_if_le (tgt := 42) hx hb dX10_prepareTold_37 (by decide) (fun _ => ?_) (fun h9 => absurd (by decide) h9)
  refine lv_aload_n hx hb dX10_prepareTold_42 rfl (lv_at hl 0 rfl) ?_
  refine k_MV (As := []) (rest := []) (ci := 10) (q0 := 0) (wr := []) ⟨hx, hb, hml, hown, hts⟩ (m_begins l D E sa a ad) b_1796 b_1798 b_66 b_88 b_1799 ⟨rfl, hd_X10_begins⟩ ⟨⟨by decide, by decide⟩, by decide, by decide⟩ hK hP hD hS hA hZ [0, 1, 2, 3] [] rfl rfl (by decide) rfl rfl rfl hl.1 (Nat.le_of_ble_eq_true rfl) dX10_prepareTold_43 (fun u_1 H locs hu hP hD hS _ => ?_)
  have hP : va_P D k_cl [(a, .inr (10, ((mfs ad).set 14 (.int 1))))] H := hP
  have hD : va_D A [(a, .inr (10, ((mfs ad).set 14 (.int 1))))] := hD
  refine W.eq (g2 := F0 m 46 ls []) rfl ?_
  refine lv_iconst (v := 0) hx hb dX10_prepareTold_46 (by decide) ?_
  refine lv_istore_n (lv' := [(1, .int 0), (0, .ref a)]) hx hb dX10_prepareTold_47 rfl hl (by decide) rfl (fun ls hl => ?_)
  refine lv_iconst (v := 0) hx hb dX10_prepareTold_48 (by decide) ?_
  refine lv_istore_n (lv' := [(2, .int 0), (1, .int 0), (0, .ref a)]) hx hb dX10_prepareTold_49 rfl hl (by decide) rfl (fun ls hl => ?_)
  refine lv_iload_n hx hb dX10_prepareTold_50 rfl (lv_at hl 0 rfl) ?_
  refine lv_aload_n hx hb dX10_prepareTold_51 rfl (lv_at hl 2 rfl) ?_
  refine va_get (D := D) (ci := 10) (v := .int 0) (C := RX10) (T := TX10) (N := 81) hx hb hts inX10 hown hK hP 0 rfl rfl 1 (by decide) (hts _ b_1315) (fun _ h9 => h9) rfl dX10_prepareTold_52 ?_
  refine lv_icmp_ge (tgt := 78) hx hb dX10_prepareTold_55 (by decide) (fun _ => ?_) (fun h9 => absurd (by decide) h9)
  refine lv_aload_n hx hb dX10_prepareTold_78 rfl (lv_at hl 2 rfl) ?_
  refine lv_iconst (v := 0) hx hb dX10_prepareTold_79 (by decide) ?_
  refine va_put (D := D) (ci := 10) (v := .int 0) (ty := .int) (C := RX10) (T := TX10) (N := 81) hx hb hts inX10 tyX10 tyX10_ok nmX10 hown hK hP hD hS 0 rfl rfl 12 (by decide) (hts _ b_1326) (fun _ h9 => h9) rfl (by decide +kernel) rfl rfl (Nat.le_of_ble_eq_true rfl) dX10_prepareTold_80 (fun H locs hP hD hS => ?_)
  have hP : va_P D k_cl [(a, .inr (10, ((mfs ad).set 14 (.int 1))))] H := hP
  have hD : va_D A [(a, .inr (10, ((mfs ad).set 14 (.int 1))))] := hD
  refine lv_aload_n hx hb dX10_prepareTold_83 rfl (lv_at hl 2 rfl) ?_
  refine lv_iload_n hx hb dX10_prepareTold_84 rfl (lv_at hl 1 rfl) ?_
  refine k_MV (As := [.int 0]) (rest := []) (ci := 10) (q0 := 0) (wr := []) ⟨hx, hb, hml, hown, hts⟩ (m_ends_0 l D E sa a ad) b_1812 b_1814 b_70 b_88 b_1815 ⟨rfl, hd_X10_ends⟩ ⟨⟨by decide, by decide⟩, by decide, by decide⟩ hK hP hD hS hA hZ [0] [] rfl rfl (by decide) rfl rfl rfl hl.1 (Nat.le_of_ble_eq_true rfl) dX10_prepareTold_85 (fun u_2 H locs hu hP hD hS _ => ?_)
  have hP : va_P D k_cl [(a, .inr (10, (((mfs ad).set 14 (.int 1)).set 45 (.int 1))))] H := hP
  have hD : va_D A [(a, .inr (10, (((mfs ad).set 14 (.int 1)).set 45 (.int 1))))] := hD
  refine W.eq (g2 := F0 m 88 ls [.int 0]) rfl ?_
  exact m_i () hx hb hr hlocks rfl trivial (hP.sub [0] rfl) (hD.sub [0] (by decide) rfl) hS (by decide) (by decide) dX10_prepareTold_88
set_option maxRecDepth 20000 in
set_option maxHeartbeats 2000000 in
theorem m_remake (l : Launch) (D : va_G) (E : Nat → ClassId) (sa : Nat → Nat) (a : Nat) (ad : Nat → Nat) : KM l yX10_remake (.code yX10_remake cX10_remake 6 (some .int)) 38 1243 0 0 D E sa [.ref a] [(a, .inr (10, (mfs ad))), ((ad 24), .inl (E 3, 1296, .inl (fun _ => 0))), ((ad 49), .inl (E 3, 1296, .inl (fun _ => 0))), ((ad 54), .inl (E 3, 1296, .inl (fun _ => 0)))] (S := Unit) (fun _ => some (.int 0)) (fun _ => True) (fun _ => [(a, .inr (10, (((mfs ad).set 14 (.int 1)).set 45 (.int 1))))]) := by
  refine KM.of (by decide) (Nat.le_of_ble_eq_true rfl) ?_
  intro p e s m below meth c A ls hx hb hr hts hml hown hlocks hnm hK hP hD hA hS hZ hl
  have hown : s.vm.findClass RX10 = some m.cls := hown
  have hl : lv_has ls 6 [(0, .ref a)] := hl
  refine lv_aload_n hx hb dX10_remake_0 rfl (lv_at hl 0 rfl) ?_
  refine lv_aload_n hx hb dX10_remake_1 rfl (lv_at hl 0 rfl) ?_
  refine va_get (D := D) (ci := 10) (v := .int 0) (C := RX10) (T := TX10) (N := 81) hx hb hts inX10 hown hK hP 0 rfl rfl 14 (by decide) (hts _ b_1328) (fun _ h9 => h9) rfl dX10_remake_2 ?_
  refine lv_bipush (v := 24) hx hb dX10_remake_5 (by decide) ?_
  refine lv_icmp_ne (tgt := 14) hx hb dX10_remake_7 (by decide) (fun _ => ?_) (fun h9 => absurd h9 (by decide))
  refine lv_iconst (v := 0) hx hb dX10_remake_14 (by decide) ?_
  refine va_put (D := D) (ci := 10) (v := .int 0) (ty := .int) (C := RX10) (T := TX10) (N := 81) hx hb hts inX10 tyX10 tyX10_ok nmX10 hown hK hP hD hS 0 rfl rfl 0 (by decide) (hts _ b_1314) (fun _ h9 => h9) rfl (by decide +kernel) rfl rfl (Nat.le_of_ble_eq_true rfl) dX10_remake_15 (fun H locs hP hD hS => ?_)
  have hP : va_P D k_cl [(a, .inr (10, (mfs ad))), ((ad 24), .inl (E 3, 1296, .inl (fun _ => 0))), ((ad 49), .inl (E 3, 1296, .inl (fun _ => 0))), ((ad 54), .inl (E 3, 1296, .inl (fun _ => 0)))] H := hP
  have hD : va_D A [(a, .inr (10, (mfs ad))), ((ad 24), .inl (E 3, 1296, .inl (fun _ => 0))), ((ad 49), .inl (E 3, 1296, .inl (fun _ => 0))), ((ad 54), .inl (E 3, 1296, .inl (fun _ => 0)))] := hD
  refine lv_aload_n hx hb dX10_remake_18 rfl (lv_at hl 0 rfl) ?_
  refine va_get (D := D) (ci := 10) (v := .int 0) (C := RX10) (T := TX10) (N := 81) hx hb hts inX10 hown hK hP 0 rfl rfl 0 (by decide) (hts _ b_1314) (fun _ h9 => h9) rfl dX10_remake_19 ?_
  refine lv_if_le (tgt := 27) hx hb dX10_remake_22 (by decide) (fun _ => ?_) (fun h9 => absurd (by decide) h9)
  refine lv_aload_n hx hb dX10_remake_27 rfl (lv_at hl 0 rfl) ?_
  refine k_MV (As := []) (rest := []) (ci := 10) (q0 := 0) (wr := []) ⟨hx, hb, hml, hown, hts⟩ (m_begins l D E sa a ad) b_1796 b_1798 b_66 b_88 b_1799 ⟨rfl, hd_X10_begins⟩ ⟨⟨by decide, by decide⟩, by decide, by decide⟩ hK hP hD hS hA hZ [0, 1, 2, 3] [] rfl rfl (by decide) rfl rfl rfl hl.1 (Nat.le_of_ble_eq_true rfl) dX10_remake_28 (fun u_1 H locs hu hP hD hS _ => ?_)
  have hP : va_P D k_cl [(a, .inr (10, ((mfs ad).set 14 (.int 1))))] H := hP
  have hD : va_D A [(a, .inr (10, ((mfs ad).set 14 (.int 1))))] := hD
  refine W.eq (g2 := F0 m 31 ls []) rfl ?_
  refine lv_iconst (v := 0) hx hb dX10_remake_31 (by decide) ?_
  refine lv_istore_n (lv' := [(1, .int 0), (0, .ref a)]) hx hb dX10_remake_32 rfl hl (by decide) rfl (fun ls hl => ?_)
  refine lv_iconst (v := 0) hx hb dX10_remake_33 (by decide) ?_
  refine lv_istore_n (lv' := [(2, .int 0), (1, .int 0), (0, .ref a)]) hx hb dX10_remake_34 rfl hl (by decide) rfl (fun ls hl => ?_)
  refine lv_iload_n hx hb dX10_remake_35 rfl (lv_at hl 0 rfl) ?_
  refine lv_aload_n hx hb dX10_remake_36 rfl (lv_at hl 2 rfl) ?_
  refine va_get (D := D) (ci := 10) (v := .int 0) (C := RX10) (T := TX10) (N := 81) hx hb hts inX10 hown hK hP 0 rfl rfl 1 (by decide) (hts _ b_1315) (fun _ h9 => h9) rfl dX10_remake_37 ?_
  refine lv_icmp_ge (tgt := 149) hx hb dX10_remake_40 (by decide) (fun _ => ?_) (fun h9 => absurd (by decide) h9)
  refine lv_aload_n hx hb dX10_remake_149 rfl (lv_at hl 2 rfl) ?_
  refine lv_iload_n hx hb dX10_remake_150 rfl (lv_at hl 1 rfl) ?_
  refine k_MV (As := [.int 0]) (rest := []) (ci := 10) (q0 := 0) (wr := []) ⟨hx, hb, hml, hown, hts⟩ (m_ends_0 l D E sa a ad) b_1812 b_1814 b_70 b_88 b_1815 ⟨rfl, hd_X10_ends⟩ ⟨⟨by decide, by decide⟩, by decide, by decide⟩ hK hP hD hS hA hZ [0] [] rfl rfl (by decide) rfl rfl rfl hl.1 (Nat.le_of_ble_eq_true rfl) dX10_remake_151 (fun u_2 H locs hu hP hD hS _ => ?_)
  have hP : va_P D k_cl [(a, .inr (10, (((mfs ad).set 14 (.int 1)).set 45 (.int 1))))] H := hP
  have hD : va_D A [(a, .inr (10, (((mfs ad).set 14 (.int 1)).set 45 (.int 1))))] := hD
  refine W.eq (g2 := F0 m 154 ls [.int 0]) rfl ?_
  exact m_i () hx hb hr hlocks rfl trivial (hP.sub [0] rfl) (hD.sub [0] (by decide) rfl) hS (by decide) (by decide) dX10_remake_154
