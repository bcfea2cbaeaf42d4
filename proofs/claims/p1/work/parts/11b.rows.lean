-- no node is there
set_option maxRecDepth 20000 in
set_option maxHeartbeats 2000000 in
theorem c_hasNode (l : Launch) (D : va_G) (E : Nat → ClassId) (g : Nat) (x0 : Nat) (x1 : Nat) (x2 : Nat) (x3 : Nat) (x4 : Nat) (x5 : Nat) (x6 : Nat) (v : Int32) : KR l yX0_hasNode cX0_hasNode 2 (some .boolean) 12 400 D E [.ref g, .int v] [(g, .inr (0, [.ref x0, .ref x1, .ref x2, .ref x3, .ref x4, .ref x5, .ref x6, .int 0, .int 0, .long 0]))] (some (.int 0)) := by
  refine KR.of (by decide) (Nat.le_of_ble_eq_true rfl) ?_
  intro p e s m below meth c ls hx hb hr hts hml hown hlocks hK hP hl
  have hown : s.vm.findClass RX0 = some m.cls := hown
  have hl : lv_has ls 2 [(0, .ref g), (1, .int v)] := hl
  refine lv_iload_n hx hb dX0_hasNode_0 rfl (lv_at hl 1 rfl) ?_
  refine lv_if_lt (tgt := 16) hx hb dX0_hasNode_1 (by decide) (fun c1 => ?_) (fun c1 => ?_)
  · refine lv_iconst (v := 0) hx hb dX0_hasNode_16 (by decide) ?_
    exact r_z hx hb hr hlocks rfl rfl dX0_hasNode_17
  · refine lv_iload_n hx hb dX0_hasNode_4 rfl (lv_at hl 1 rfl) ?_
    refine lv_aload_n hx hb dX0_hasNode_5 rfl (lv_at hl 0 rfl) ?_
    refine va_get (D := D) (ci := 0) (v := .int 0) (C := RX0) (T := TX0) (N := 10) hx hb hts inX0 hown hK hP 0 rfl rfl 7 (by decide) (hts _ b_195) (fun _ h9 => h9) rfl dX0_hasNode_6 ?_
    refine lv_icmp_ge (tgt := 16) hx hb dX0_hasNode_9 (by decide) (fun _ => ?_) (fun h9 => absurd (Int32.not_lt.mp c1) h9)
    refine lv_iconst (v := 0) hx hb dX0_hasNode_16 (by decide) ?_
    exact r_z hx hb hr hlocks rfl rfl dX0_hasNode_17
-- no arc is there
set_option maxRecDepth 20000 in
set_option maxHeartbeats 2000000 in
theorem c_hasArc (l : Launch) (D : va_G) (E : Nat → ClassId) (g : Nat) (x0 : Nat) (x1 : Nat) (x2 : Nat) (x3 : Nat) (x4 : Nat) (x5 : Nat) (x6 : Nat) (v : Int32) : KR l yX0_hasArc cX0_hasArc 2 (some .boolean) 12 400 D E [.ref g, .int v] [(g, .inr (0, [.ref x0, .ref x1, .ref x2, .ref x3, .ref x4, .ref x5, .ref x6, .int 0, .int 0, .long 0]))] (some (.int 0)) := by
  refine KR.of (by decide) (Nat.le_of_ble_eq_true rfl) ?_
  intro p e s m below meth c ls hx hb hr hts hml hown hlocks hK hP hl
  have hown : s.vm.findClass RX0 = some m.cls := hown
  have hl : lv_has ls 2 [(0, .ref g), (1, .int v)] := hl
  refine lv_iload_n hx hb dX0_hasArc_0 rfl (lv_at hl 1 rfl) ?_
  refine lv_if_lt (tgt := 16) hx hb dX0_hasArc_1 (by decide) (fun c1 => ?_) (fun c1 => ?_)
  · refine lv_iconst (v := 0) hx hb dX0_hasArc_16 (by decide) ?_
    exact r_z hx hb hr hlocks rfl rfl dX0_hasArc_17
  · refine lv_iload_n hx hb dX0_hasArc_4 rfl (lv_at hl 1 rfl) ?_
    refine lv_aload_n hx hb dX0_hasArc_5 rfl (lv_at hl 0 rfl) ?_
    refine va_get (D := D) (ci := 0) (v := .int 0) (C := RX0) (T := TX0) (N := 10) hx hb hts inX0 hown hK hP 0 rfl rfl 8 (by decide) (hts _ b_198) (fun _ h9 => h9) rfl dX0_hasArc_6 ?_
    refine lv_icmp_ge (tgt := 16) hx hb dX0_hasArc_9 (by decide) (fun _ => ?_) (fun h9 => absurd (Int32.not_lt.mp c1) h9)
    refine lv_iconst (v := 0) hx hb dX0_hasArc_16 (by decide) ?_
    exact r_z hx hb hr hlocks rfl rfl dX0_hasArc_17
-- throws: no node is there
set_option maxRecDepth 20000 in
set_option maxHeartbeats 2000000 in
theorem t_needNode (l : Launch) (D : va_G) (E : Nat → ClassId) (sa : Nat → Nat) (hl9 : l.stackTraces = false) (a : Nat) (tp : Nat) (gr : Nat) (rd : Nat) (ah : Nat) (bk : Nat) (tr : Nat) (lm : Nat) (hi : Nat) (ro : Nat) (sc : Nat) (to : Nat) (x0 : Nat) (x1 : Nat) (x2 : Nat) (x3 : Nat) (x4 : Nat) (x5 : Nat) (x6 : Nat) (v : Int32) : KT l yX9_needNode cX9_needNode 2 none 25 821 D E sa [.ref a, .int v] [(a, .inr (9, [.ref tp, .ref gr, .ref rd, .ref ah, .ref bk, .ref tr, .ref lm, .ref hi, .ref ro, .ref sc, .ref to, .int 0, .int 0])), (gr, .inr (0, [.ref x0, .ref x1, .ref x2, .ref x3, .ref x4, .ref x5, .ref x6, .int 0, .int 0, .long 0]))] "java/lang/IndexOutOfBoundsException" := by
  refine KT.of (by decide) (Nat.le_of_ble_eq_true rfl) ?_
  intro p e s m below meth c ls hx hb hr hts hml hown hlocks htab hK hP hZ hl
  have hown : s.vm.findClass RX9 = some m.cls := hown
  have hl : lv_has ls 2 [(0, .ref a), (1, .int v)] := hl
  refine lv_aload_n hx hb dX9_needNode_0 rfl (lv_at hl 0 rfl) ?_
  refine va_get (D := D) (ci := 9) (v := .ref gr) (C := RX9) (T := TX9) (N := 13) hx hb hts inX9 hown hK hP 0 rfl rfl 1 (by decide) (hts _ b_482) (fun _ h9 => h9) rfl dX9_needNode_1 ?_
  refine lv_iload_n hx hb dX9_needNode_4 rfl (lv_at hl 1 rfl) ?_
  refine k_RV (As := [.int v]) (rest := []) (ci := 0) (q0 := 1) ⟨hx, hb, hml, hown, hts⟩ (c_hasNode l D E gr x0 x1 x2 x3 x4 x5 x6 v) b_682 b_683 b_684 b_80 b_685 ⟨rfl, hd_X0_hasNode⟩ ⟨⟨by decide, by decide⟩, by decide, by decide⟩ hK hP [1] rfl rfl rfl rfl hl.1 (Nat.le_of_ble_eq_true rfl) dX9_needNode_5 ?_
  refine lv_if_ne (tgt := 22) hx hb dX9_needNode_8 (by decide) (fun h9 => absurd (by decide) h9) (fun _ => ?_)
  exact x_thW hl9 hx hb hown hts x_ok_io hZ.2.1.1 hZ.2.2.2.2.1 hZ (by rw [hml]; exact hl.1) htab hlocks ⟨by decide, Nat.le_of_ble_eq_true rfl, by decide, by decide⟩ dX9_needNode_11 dX9_needNode_14 dX9_needNode_15 dX9_needNode_18 dX9_needNode_21
-- search throws
set_option maxRecDepth 20000 in
set_option maxHeartbeats 2000000 in
theorem t_search (l : Launch) (D : va_G) (E : Nat → ClassId) (sa : Nat → Nat) (hl9 : l.stackTraces = false) (a : Nat) (tp : Nat) (gr : Nat) (rd : Nat) (ah : Nat) (bk : Nat) (tr : Nat) (lm : Nat) (hi : Nat) (ro : Nat) (sc : Nat) (to : Nat) (x0 : Nat) (x1 : Nat) (x2 : Nat) (x3 : Nat) (x4 : Nat) (x5 : Nat) (x6 : Nat) (v0 : Int32) : KT l yX9_search cX9_search 2 (some .int) 38 1242 D E sa [.ref a, .int v0] [(a, .inr (9, [.ref tp, .ref gr, .ref rd, .ref ah, .ref bk, .ref tr, .ref lm, .ref hi, .ref ro, .ref sc, .ref to, .int 0, .int 0])), (gr, .inr (0, [.ref x0, .ref x1, .ref x2, .ref x3, .ref x4, .ref x5, .ref x6, .int 0, .int 0, .long 0]))] "java/lang/IndexOutOfBoundsException" := by
  refine KT.of (by decide) (Nat.le_of_ble_eq_true rfl) ?_
  intro p e s m below meth c ls hx hb hr hts hml hown hlocks htab hK hP hZ hl
  have hown : s.vm.findClass RX9 = some m.cls := hown
  have hl : lv_has ls 2 [(0, .ref a), (1, .int v0)] := hl
  refine lv_aload_n hx hb dX9_search_0 rfl (lv_at hl 0 rfl) ?_
  refine lv_iload_n hx hb dX9_search_1 rfl (lv_at hl 1 rfl) ?_
  exact x_pass (x_run (As := [.int v0]) (rest := []) (ci := 9) (q0 := 0) ⟨hx, hb, hml, hown, hts⟩ (t_needNode l D E sa hl9 a tp gr rd ah bk tr lm hi ro sc to x0 x1 x2 x3 x4 x5 x6 v0) b_979 b_981 b_19 b_78 b_982 ⟨rfl, hd_X9_needNode⟩ ⟨⟨by decide, by decide⟩, by decide, by decide⟩ hK hP hZ [0, 1] rfl rfl rfl rfl hl.1 (Nat.le_of_ble_eq_true rfl) dX9_search_2) htab hlocks
-- goal throws
set_option maxRecDepth 20000 in
set_option maxHeartbeats 2000000 in
theorem t_goal (l : Launch) (D : va_G) (E : Nat → ClassId) (sa : Nat → Nat) (hl9 : l.stackTraces = false) (a : Nat) (tp : Nat) (gr : Nat) (rd : Nat) (ah : Nat) (bk : Nat) (tr : Nat) (lm : Nat) (hi : Nat) (ro : Nat) (sc : Nat) (to : Nat) (x0 : Nat) (x1 : Nat) (x2 : Nat) (x3 : Nat) (x4 : Nat) (x5 : Nat) (x6 : Nat) (v0 : Int32) (v1 : Int32) : KT l yX9_goal cX9_goal 3 (some .int) 38 1242 D E sa [.ref a, .int v0, .int v1] [(a, .inr (9, [.ref tp, .ref gr, .ref rd, .ref ah, .ref bk, .ref tr, .ref lm, .ref hi, .ref ro, .ref sc, .ref to, .int 0, .int 0])), (gr, .inr (0, [.ref x0, .ref x1, .ref x2, .ref x3, .ref x4, .ref x5, .ref x6, .int 0, .int 0, .long 0]))] "java/lang/IndexOutOfBoundsException" := by
  refine KT.of (by decide) (Nat.le_of_ble_eq_true rfl) ?_
  intro p e s m below meth c ls hx hb hr hts hml hown hlocks htab hK hP hZ hl
  have hown : s.vm.findClass RX9 = some m.cls := hown
  have hl : lv_has ls 3 [(0, .ref a), (1, .int v0), (2, .int v1)] := hl
  refine lv_aload_n hx hb dX9_goal_0 rfl (lv_at hl 0 rfl) ?_
  refine lv_iload_n hx hb dX9_goal_1 rfl (lv_at hl 1 rfl) ?_
  exact x_pass (x_run (As := [.int v0]) (rest := []) (ci := 9) (q0 := 0) ⟨hx, hb, hml, hown, hts⟩ (t_needNode l D E sa hl9 a tp gr rd ah bk tr lm hi ro sc to x0 x1 x2 x3 x4 x5 x6 v0) b_979 b_981 b_19 b_78 b_982 ⟨rfl, hd_X9_needNode⟩ ⟨⟨by decide, by decide⟩, by decide, by decide⟩ hK hP hZ [0, 1] rfl rfl rfl rfl hl.1 (Nat.le_of_ble_eq_true rfl) dX9_goal_2) htab hlocks
-- both throws
set_option maxRecDepth 20000 in
set_option maxHeartbeats 2000000 in
theorem t_both (l : Launch) (D : va_G) (E : Nat → ClassId) (sa : Nat → Nat) (hl9 : l.stackTraces = false) (a : Nat) (tp : Nat) (gr : Nat) (rd : Nat) (ah : Nat) (bk : Nat) (tr : Nat) (lm : Nat) (hi : Nat) (ro : Nat) (sc : Nat) (to : Nat) (x0 : Nat) (x1 : Nat) (x2 : Nat) (x3 : Nat) (x4 : Nat) (x5 : Nat) (x6 : Nat) (v0 : Int32) (v1 : Int32) : KT l yX9_both cX9_both 3 (some .int) 38 1242 D E sa [.ref a, .int v0, .int v1] [(a, .inr (9, [.ref tp, .ref gr, .ref rd, .ref ah, .ref bk, .ref tr, .ref lm, .ref hi, .ref ro, .ref sc, .ref to, .int 0, .int 0])), (gr, .inr (0, [.ref x0, .ref x1, .ref x2, .ref x3, .ref x4, .ref x5, .ref x6, .int 0, .int 0, .long 0]))] "java/lang/IndexOutOfBoundsException" := by
  refine KT.of (by decide) (Nat.le_of_ble_eq_true rfl) ?_
  intro p e s m below meth c ls hx hb hr hts hml hown hlocks htab hK hP hZ hl
  have hown : s.vm.findClass RX9 = some m.cls := hown
  have hl : lv_has ls 3 [(0, .ref a), (1, .int v0), (2, .int v1)] := hl
  refine lv_aload_n hx hb dX9_both_0 rfl (lv_at hl 0 rfl) ?_
  refine lv_iload_n hx hb dX9_both_1 rfl (lv_at hl 1 rfl) ?_
  exact x_pass (x_run (As := [.int v0]) (rest := []) (ci := 9) (q0 := 0) ⟨hx, hb, hml, hown, hts⟩ (t_needNode l D E sa hl9 a tp gr rd ah bk tr lm hi ro sc to x0 x1 x2 x3 x4 x5 x6 v0) b_979 b_981 b_19 b_78 b_982 ⟨rfl, hd_X9_needNode⟩ ⟨⟨by decide, by decide⟩, by decide, by decide⟩ hK hP hZ [0, 1] rfl rfl rfl rfl hl.1 (Nat.le_of_ble_eq_true rfl) dX9_both_2) htab hlocks
-- landmarked throws
set_option maxRecDepth 20000 in
set_option maxHeartbeats 2000000 in
theorem t_landmarked (l : Launch) (D : va_G) (E : Nat → ClassId) (sa : Nat → Nat) (hl9 : l.stackTraces = false) (a : Nat) (tp : Nat) (gr : Nat) (rd : Nat) (ah : Nat) (bk : Nat) (tr : Nat) (lm : Nat) (hi : Nat) (ro : Nat) (sc : Nat) (to : Nat) (x0 : Nat) (x1 : Nat) (x2 : Nat) (x3 : Nat) (x4 : Nat) (x5 : Nat) (x6 : Nat) (v0 : Int32) (v1 : Int32) : KT l yX9_landmarked cX9_landmarked 3 (some .int) 38 1242 D E sa [.ref a, .int v0, .int v1] [(a, .inr (9, [.ref tp, .ref gr, .ref rd, .ref ah, .ref bk, .ref tr, .ref lm, .ref hi, .ref ro, .ref sc, .ref to, .int 0, .int 0])), (gr, .inr (0, [.ref x0, .ref x1, .ref x2, .ref x3, .ref x4, .ref x5, .ref x6, .int 0, .int 0, .long 0]))] "java/lang/IndexOutOfBoundsException" := by
  refine KT.of (by decide) (Nat.le_of_ble_eq_true rfl) ?_
  intro p e s m below meth c ls hx hb hr hts hml hown hlocks htab hK hP hZ hl
  have hown : s.vm.findClass RX9 = some m.cls := hown
  have hl : lv_has ls 3 [(0, .ref a), (1, .int v0), (2, .int v1)] := hl
  refine lv_aload_n hx hb dX9_landmarked_0 rfl (lv_at hl 0 rfl) ?_
  refine lv_iload_n hx hb dX9_landmarked_1 rfl (lv_at hl 1 rfl) ?_
  exact x_pass (x_run (As := [.int v0]) (rest := []) (ci := 9) (q0 := 0) ⟨hx, hb, hml, hown, hts⟩ (t_needNode l D E sa hl9 a tp gr rd ah bk tr lm hi ro sc to x0 x1 x2 x3 x4 x5 x6 v0) b_979 b_981 b_19 b_78 b_982 ⟨rfl, hd_X9_needNode⟩ ⟨⟨by decide, by decide⟩, by decide, by decide⟩ hK hP hZ [0, 1] rfl rfl rfl rfl hl.1 (Nat.le_of_ble_eq_true rfl) dX9_landmarked_2) htab hlocks
-- straight throws
set_option maxRecDepth 20000 in
set_option maxHeartbeats 2000000 in
theorem t_straight (l : Launch) (D : va_G) (E : Nat → ClassId) (sa : Nat → Nat) (hl9 : l.stackTraces = false) (a : Nat) (tp : Nat) (gr : Nat) (rd : Nat) (ah : Nat) (bk : Nat) (tr : Nat) (lm : Nat) (hi : Nat) (ro : Nat) (sc : Nat) (to : Nat) (x0 : Nat) (x1 : Nat) (x2 : Nat) (x3 : Nat) (x4 : Nat) (x5 : Nat) (x6 : Nat) (v0 : Int32) (v1 : Int32) : KT l yX9_straight cX9_straight 6 (some .int) 38 1242 D E sa [.ref a, .int v0, .int v1] [(a, .inr (9, [.ref tp, .ref gr, .ref rd, .ref ah, .ref bk, .ref tr, .ref lm, .ref hi, .ref ro, .ref sc, .ref to, .int 0, .int 0])), (gr, .inr (0, [.ref x0, .ref x1, .ref x2, .ref x3, .ref x4, .ref x5, .ref x6, .int 0, .int 0, .long 0]))] "java/lang/IndexOutOfBoundsException" := by
  refine KT.of (by decide) (Nat.le_of_ble_eq_true rfl) ?_
  intro p e s m below meth c ls hx hb hr hts hml hown hlocks htab hK hP hZ hl
  have hown : s.vm.findClass RX9 = some m.cls := hown
  have hl : lv_has ls 6 [(0, .ref a), (1, .int v0), (2, .int v1)] := hl
  refine lv_aload_n hx hb dX9_straight_0 rfl (lv_at hl 0 rfl) ?_
  refine lv_iload_n hx hb dX9_straight_1 rfl (lv_at hl 1 rfl) ?_
  exact x_pass (x_run (As := [.int v0]) (rest := []) (ci := 9) (q0 := 0) ⟨hx, hb, hml, hown, hts⟩ (t_needNode l D E sa hl9 a tp gr rd ah bk tr lm hi ro sc to x0 x1 x2 x3 x4 x5 x6 v0) b_979 b_981 b_19 b_78 b_982 ⟨rfl, hd_X9_needNode⟩ ⟨⟨by decide, by decide⟩, by decide, by decide⟩ hK hP hZ [0, 1] rfl rfl rfl rfl hl.1 (Nat.le_of_ble_eq_true rfl) dX9_straight_2) htab hlocks
-- landmark throws
set_option maxRecDepth 20000 in
set_option maxHeartbeats 2000000 in
theorem t_landmark (l : Launch) (D : va_G) (E : Nat → ClassId) (sa : Nat → Nat) (hl9 : l.stackTraces = false) (a : Nat) (tp : Nat) (gr : Nat) (rd : Nat) (ah : Nat) (bk : Nat) (tr : Nat) (lm : Nat) (hi : Nat) (ro : Nat) (sc : Nat) (to : Nat) (x0 : Nat) (x1 : Nat) (x2 : Nat) (x3 : Nat) (x4 : Nat) (x5 : Nat) (x6 : Nat) (v0 : Int32) : KT l yX9_landmark cX9_landmark 2 (some .int) 38 1242 D E sa [.ref a, .int v0] [(a, .inr (9, [.ref tp, .ref gr, .ref rd, .ref ah, .ref bk, .ref tr, .ref lm, .ref hi, .ref ro, .ref sc, .ref to, .int 0, .int 0])), (gr, .inr (0, [.ref x0, .ref x1, .ref x2, .ref x3, .ref x4, .ref x5, .ref x6, .int 0, .int 0, .long 0]))] "java/lang/IndexOutOfBoundsException" := by
  refine KT.of (by decide) (Nat.le_of_ble_eq_true rfl) ?_
  intro p e s m below meth c ls hx hb hr hts hml hown hlocks htab hK hP hZ hl
  have hown : s.vm.findClass RX9 = some m.cls := hown
  have hl : lv_has ls 2 [(0, .ref a), (1, .int v0)] := hl
  refine lv_aload_n hx hb dX9_landmark_0 rfl (lv_at hl 0 rfl) ?_
  refine lv_iload_n hx hb dX9_landmark_1 rfl (lv_at hl 1 rfl) ?_
  exact x_pass (x_run (As := [.int v0]) (rest := []) (ci := 9) (q0 := 0) ⟨hx, hb, hml, hown, hts⟩ (t_needNode l D E sa hl9 a tp gr rd ah bk tr lm hi ro sc to x0 x1 x2 x3 x4 x5 x6 v0) b_979 b_981 b_19 b_78 b_982 ⟨rfl, hd_X9_needNode⟩ ⟨⟨by decide, by decide⟩, by decide, by decide⟩ hK hP hZ [0, 1] rfl rfl rfl rfl hl.1 (Nat.le_of_ble_eq_true rfl) dX9_landmark_2) htab hlocks
-- order throws
set_option maxRecDepth 20000 in
set_option maxHeartbeats 2000000 in
theorem t_order (l : Launch) (D : va_G) (E : Nat → ClassId) (sa : Nat → Nat) (hl9 : l.stackTraces = false) (a : Nat) (tp : Nat) (gr : Nat) (rd : Nat) (ah : Nat) (bk : Nat) (tr : Nat) (lm : Nat) (hi : Nat) (ro : Nat) (sc : Nat) (to : Nat) (x0 : Nat) (x1 : Nat) (x2 : Nat) (x3 : Nat) (x4 : Nat) (x5 : Nat) (x6 : Nat) (v0 : Int32) : KT l yX9_order cX9_order 2 (some .int) 38 1242 D E sa [.ref a, .int v0] [(a, .inr (9, [.ref tp, .ref gr, .ref rd, .ref ah, .ref bk, .ref tr, .ref lm, .ref hi, .ref ro, .ref sc, .ref to, .int 0, .int 0])), (gr, .inr (0, [.ref x0, .ref x1, .ref x2, .ref x3, .ref x4, .ref x5, .ref x6, .int 0, .int 0, .long 0]))] "java/lang/IndexOutOfBoundsException" := by
  refine KT.of (by decide) (Nat.le_of_ble_eq_true rfl) ?_
  intro p e s m below meth c ls hx hb hr hts hml hown hlocks htab hK hP hZ hl
  have hown : s.vm.findClass RX9 = some m.cls := hown
  have hl : lv_has ls 2 [(0, .ref a), (1, .int v0)] := hl
  refine lv_aload_n hx hb dX9_order_0 rfl (lv_at hl 0 rfl) ?_
  refine lv_iload_n hx hb dX9_order_1 rfl (lv_at hl 1 rfl) ?_
  exact x_pass (x_run (As := [.int v0]) (rest := []) (ci := 9) (q0 := 0) ⟨hx, hb, hml, hown, hts⟩ (t_needNode l D E sa hl9 a tp gr rd ah bk tr lm hi ro sc to x0 x1 x2 x3 x4 x5 x6 v0) b_979 b_981 b_19 b_78 b_982 ⟨rfl, hd_X9_needNode⟩ ⟨⟨by decide, by decide⟩, by decide, by decide⟩ hK hP hZ [0, 1] rfl rfl rfl rfl hl.1 (Nat.le_of_ble_eq_true rfl) dX9_order_2) htab hlocks
-- query throws
set_option maxRecDepth 20000 in
set_option maxHeartbeats 2000000 in
theorem t_query (l : Launch) (D : va_G) (E : Nat → ClassId) (sa : Nat → Nat) (hl9 : l.stackTraces = false) (a : Nat) (tp : Nat) (gr : Nat) (rd : Nat) (ah : Nat) (bk : Nat) (tr : Nat) (lm : Nat) (hi : Nat) (ro : Nat) (sc : Nat) (to : Nat) (x0 : Nat) (x1 : Nat) (x2 : Nat) (x3 : Nat) (x4 : Nat) (x5 : Nat) (x6 : Nat) (v0 : Int32) (v1 : Int32) : KT l yX9_query cX9_query 3 (some .int) 38 1242 D E sa [.ref a, .int v0, .int v1] [(a, .inr (9, [.ref tp, .ref gr, .ref rd, .ref ah, .ref bk, .ref tr, .ref lm, .ref hi, .ref ro, .ref sc, .ref to, .int 0, .int 0])), (gr, .inr (0, [.ref x0, .ref x1, .ref x2, .ref x3, .ref x4, .ref x5, .ref x6, .int 0, .int 0, .long 0]))] "java/lang/IndexOutOfBoundsException" := by
  refine KT.of (by decide) (Nat.le_of_ble_eq_true rfl) ?_
  intro p e s m below meth c ls hx hb hr hts hml hown hlocks htab hK hP hZ hl
  have hown : s.vm.findClass RX9 = some m.cls := hown
  have hl : lv_has ls 3 [(0, .ref a), (1, .int v0), (2, .int v1)] := hl
  refine lv_aload_n hx hb dX9_query_0 rfl (lv_at hl 0 rfl) ?_
  refine lv_iload_n hx hb dX9_query_1 rfl (lv_at hl 1 rfl) ?_
  exact x_pass (x_run (As := [.int v0]) (rest := []) (ci := 9) (q0 := 0) ⟨hx, hb, hml, hown, hts⟩ (t_needNode l D E sa hl9 a tp gr rd ah bk tr lm hi ro sc to x0 x1 x2 x3 x4 x5 x6 v0) b_979 b_981 b_19 b_78 b_982 ⟨rfl, hd_X9_needNode⟩ ⟨⟨by decide, by decide⟩, by decide, by decide⟩ hK hP hZ [0, 1] rfl rfl rfl rfl hl.1 (Nat.le_of_ble_eq_true rfl) dX9_query_2) htab hlocks
-- arc throws
set_option maxRecDepth 20000 in
set_option maxHeartbeats 2000000 in
theorem t_arc (l : Launch) (D : va_G) (E : Nat → ClassId) (sa : Nat → Nat) (hl9 : l.stackTraces = false) (a : Nat) (tp : Nat) (gr : Nat) (rd : Nat) (ah : Nat) (bk : Nat) (tr : Nat) (lm : Nat) (hi : Nat) (ro : Nat) (sc : Nat) (to : Nat) (x0 : Nat) (x1 : Nat) (x2 : Nat) (x3 : Nat) (x4 : Nat) (x5 : Nat) (x6 : Nat) (v0 : Int32) (v1 : Int32) (w : Int64) : KT l yX9_arc cX9_arc 8 (some .int) 38 1242 D E sa [.ref a, .int v0, .int v1, .long w] [(a, .inr (9, [.ref tp, .ref gr, .ref rd, .ref ah, .ref bk, .ref tr, .ref lm, .ref hi, .ref ro, .ref sc, .ref to, .int 0, .int 0])), (gr, .inr (0, [.ref x0, .ref x1, .ref x2, .ref x3, .ref x4, .ref x5, .ref x6, .int 0, .int 0, .long 0]))] "java/lang/IndexOutOfBoundsException" := by
  refine KT.of (by decide) (Nat.le_of_ble_eq_true rfl) ?_
  intro p e s m below meth c ls hx hb hr hts hml hown hlocks htab hK hP hZ hl
  have hown : s.vm.findClass RX9 = some m.cls := hown
  have hl : lv_has ls 8 [(0, .ref a), (1, .int v0), (2, .int v1), (3, .long w)] := hl
  refine lv_aload_n hx hb dX9_arc_0 rfl (lv_at hl 0 rfl) ?_
  refine lv_iload_n hx hb dX9_arc_1 rfl (lv_at hl 1 rfl) ?_
  exact x_pass (x_run (As := [.int v0]) (rest := []) (ci := 9) (q0 := 0) ⟨hx, hb, hml, hown, hts⟩ (t_needNode l D E sa hl9 a tp gr rd ah bk tr lm hi ro sc to x0 x1 x2 x3 x4 x5 x6 v0) b_979 b_981 b_19 b_78 b_982 ⟨rfl, hd_X9_needNode⟩ ⟨⟨by decide, by decide⟩, by decide, by decide⟩ hK hP hZ [0, 1] rfl rfl rfl rfl hl.1 (Nat.le_of_ble_eq_true rfl) dX9_arc_2) htab hlocks
-- potential throws
set_option maxRecDepth 20000 in
set_option maxHeartbeats 2000000 in
theorem t_potential (l : Launch) (D : va_G) (E : Nat → ClassId) (sa : Nat → Nat) (hl9 : l.stackTraces = false) (a : Nat) (tp : Nat) (gr : Nat) (rd : Nat) (ah : Nat) (bk : Nat) (tr : Nat) (lm : Nat) (hi : Nat) (ro : Nat) (sc : Nat) (to : Nat) (x0 : Nat) (x1 : Nat) (x2 : Nat) (x3 : Nat) (x4 : Nat) (x5 : Nat) (x6 : Nat) (v0 : Int32) (w : Int64) : KT l yX9_potential cX9_potential 8 (some .long) 38 1242 D E sa [.ref a, .int v0, .long w] [(a, .inr (9, [.ref tp, .ref gr, .ref rd, .ref ah, .ref bk, .ref tr, .ref lm, .ref hi, .ref ro, .ref sc, .ref to, .int 0, .int 0])), (gr, .inr (0, [.ref x0, .ref x1, .ref x2, .ref x3, .ref x4, .ref x5, .ref x6, .int 0, .int 0, .long 0]))] "java/lang/IndexOutOfBoundsException" := by
  refine KT.of (by decide) (Nat.le_of_ble_eq_true rfl) ?_
  intro p e s m below meth c ls hx hb hr hts hml hown hlocks htab hK hP hZ hl
  have hown : s.vm.findClass RX9 = some m.cls := hown
  have hl : lv_has ls 8 [(0, .ref a), (1, .int v0), (2, .long w)] := hl
  refine lv_aload_n hx hb dX9_potential_0 rfl (lv_at hl 0 rfl) ?_
  refine lv_iload_n hx hb dX9_potential_1 rfl (lv_at hl 1 rfl) ?_
  exact x_pass (x_run (As := [.int v0]) (rest := []) (ci := 9) (q0 := 0) ⟨hx, hb, hml, hown, hts⟩ (t_needNode l D E sa hl9 a tp gr rd ah bk tr lm hi ro sc to x0 x1 x2 x3 x4 x5 x6 v0) b_979 b_981 b_19 b_78 b_982 ⟨rfl, hd_X9_needNode⟩ ⟨⟨by decide, by decide⟩, by decide, by decide⟩ hK hP hZ [0, 1] rfl rfl rfl rfl hl.1 (Nat.le_of_ble_eq_true rfl) dX9_potential_2) htab hlocks
-- weigh throws
set_option maxRecDepth 20000 in
set_option maxHeartbeats 2000000 in
theorem t_weigh (l : Launch) (D : va_G) (E : Nat → ClassId) (sa : Nat → Nat) (hl9 : l.stackTraces = false) (a : Nat) (tp : Nat) (gr : Nat) (rd : Nat) (ah : Nat) (bk : Nat) (tr : Nat) (lm : Nat) (hi : Nat) (ro : Nat) (sc : Nat) (to : Nat) (x0 : Nat) (x1 : Nat) (x2 : Nat) (x3 : Nat) (x4 : Nat) (x5 : Nat) (x6 : Nat) (v0 : Int32) (w : Int64) : KT l yX9_weigh cX9_weigh 8 (some .long) 25 821 D E sa [.ref a, .int v0, .long w] [(a, .inr (9, [.ref tp, .ref gr, .ref rd, .ref ah, .ref bk, .ref tr, .ref lm, .ref hi, .ref ro, .ref sc, .ref to, .int 0, .int 0])), (gr, .inr (0, [.ref x0, .ref x1, .ref x2, .ref x3, .ref x4, .ref x5, .ref x6, .int 0, .int 0, .long 0]))] "java/lang/IndexOutOfBoundsException" := by
  refine KT.of (by decide) (Nat.le_of_ble_eq_true rfl) ?_
  intro p e s m below meth c ls hx hb hr hts hml hown hlocks htab hK hP hZ hl
  have hown : s.vm.findClass RX9 = some m.cls := hown
  have hl : lv_has ls 8 [(0, .ref a), (1, .int v0), (2, .long w)] := hl
  refine lv_aload_n hx hb dX9_weigh_0 rfl (lv_at hl 0 rfl) ?_
  refine va_get (D := D) (ci := 9) (v := .ref gr) (C := RX9) (T := TX9) (N := 13) hx hb hts inX9 hown hK hP 0 rfl rfl 1 (by decide) (hts _ b_482) (fun _ h9 => h9) rfl dX9_weigh_1 ?_
  refine lv_iload_n hx hb dX9_weigh_4 rfl (lv_at hl 1 rfl) ?_
  refine k_RV (As := [.int v0]) (rest := []) (ci := 0) (q0 := 1) ⟨hx, hb, hml, hown, hts⟩ (c_hasArc l D E gr x0 x1 x2 x3 x4 x5 x6 v0) b_678 b_679 b_680 b_80 b_681 ⟨rfl, hd_X0_hasArc⟩ ⟨⟨by decide, by decide⟩, by decide, by decide⟩ hK hP [1] rfl rfl rfl rfl hl.1 (Nat.le_of_ble_eq_true rfl) dX9_weigh_5 ?_
  refine lv_if_ne (tgt := 21) hx hb dX9_weigh_8 (by decide) (fun h9 => absurd (by decide) h9) (fun _ => ?_)
  exact x_thS hl9 hx hb hown hts x_ok_io hZ.2.1.2.1 hZ.2.2.2.2.1 hZ (by rw [hml]; exact hl.1) htab hlocks ⟨by decide, Nat.le_of_ble_eq_true rfl, by decide, by decide⟩ dX9_weigh_11 dX9_weigh_14 dX9_weigh_15 dX9_weigh_17 dX9_weigh_20
