set_option maxRecDepth 20000 in
set_option maxHeartbeats 2000000 in
theorem h_feed (l : Launch) (D : va_G) (E : Nat → ClassId) (sa : Nat → Nat) (a : Nat) (p_tape : Nat) (p_graph : Nat) (p_reader : Nat) (p_ahead : Nat) (p_back : Nat) (p_trail : Nat) (p_landmarks : Nat) (p_hierarchy : Nat) (p_route : Nat) (p_scratch : Nat) (p_toldRow : Nat) (t_bytes : Nat) (f : Nat → Int32) (v0 : Int32) (v1 : Int32) (v2 : Int32) (v3 : Int32) (v4 : Int32) (o : Nat) (fo : Nat → Int64) : KM l yL_feed (.codeWith yL_feed cL_feed 8 (some .int) [(0, 16, 19, 13)]) 38 1247 0 0 D E sa [.ref a, .int v0, .int v1, .int v2, .int v3, .int v4, .ref o] [(a, .inr (9, [.ref p_tape, .ref p_graph, .ref p_reader, .ref p_ahead, .ref p_back, .ref p_trail, .ref p_landmarks, .ref p_hierarchy, .ref p_route, .ref p_scratch, .ref p_toldRow, .int 0, .int 0])), (p_tape, .inr (6, [.ref t_bytes, .int 0])), (t_bytes, .inl (E 2, 2000, .inl f)), (o, .inl (E 1, 1, .inr (.inl fo)))] (S := Unit) (fun _ => some (.int 0)) (fun _ => True) (fun _ => [(o, .inl (E 1, 1, .inr (.inl (vp_updL fo (0 : Int32).toNatClampNeg 20))))]) := by
  refine KM.ofH (by decide) (Nat.le_of_ble_eq_true rfl) ?_
  intro p e s m below meth c A ls hx hb hr hts hml hown hlocks htab hK hP hD hA hS hZ hl
  have hown : s.vm.findClass RL = some m.cls := hown
  have hl : lv_has ls 8 [(0, .ref a), (1, .int v0), (2, .int v1), (3, .int v2), (4, .int v3), (5, .int v4), (6, .ref o)] := hl
  refine lv_aload hx hb dL_feed_0 (lv_at hl 6 rfl) ?_
  refine lv_iconst (v := 0) hx hb dL_feed_2 (by decide) ?_
  refine lv_aload_n hx hb dL_feed_3 rfl (lv_at hl 0 rfl) ?_
  refine lv_iload_n hx hb dL_feed_4 rfl (lv_at hl 1 rfl) ?_
  refine lv_iload_n hx hb dL_feed_5 rfl (lv_at hl 2 rfl) ?_
  refine lv_iload_n hx hb dL_feed_6 rfl (lv_at hl 3 rfl) ?_
  refine lv_iload hx hb dL_feed_7 (lv_at hl 4 rfl) ?_
  refine lv_iload hx hb dL_feed_9 (lv_at hl 5 rfl) ?_
  refine k_MV (As := [.int v0, .int v1, .int v2, .int v3, .int v4]) (rest := [.int 0, .ref o]) (ci := 9) (q0 := 0) (wr := [(o, .inl (E 1, 1, .inr (.inl fo)))]) ⟨hx, hb, hml, hown, hts⟩ (c_feed l D E sa a p_tape p_graph p_reader p_ahead p_back p_trail p_landmarks p_hierarchy p_route p_scratch p_toldRow t_bytes f v0 v1 v2 v3 v4) b_855 b_856 b_857 b_78 b_858 ⟨rfl, hd_X9_feed⟩ ⟨⟨by decide, by decide⟩, by decide, by decide⟩ hK hP hD hS hA hZ [0, 1, 2] [3] rfl rfl (by decide) rfl rfl rfl hl.1 (Nat.le_of_ble_eq_true rfl) dL_feed_11 (fun u_1 H locs hu hP hD hS _ => ?_)
  have hP : va_P D k_cl [(o, .inl (E 1, 1, .inr (.inl fo)))] H := hP
  have hD : va_D A [(o, .inl (E 1, 1, .inr (.inl fo)))] := hD
  refine W.eq (g2 := F0 m 14 ls [.int 20, .int 0, .ref o]) rfl ?_
  refine lv_i2l (v := 20) hx hb dL_feed_14 (by decide) ?_
  refine va_last hx hb hK hP hD hS 0 1 rfl rfl (by unfold vp_in; decide) dL_feed_15 (fun H locs hP hD hS => ?_)
  have hP : va_P D k_cl [(o, .inl (E 1, 1, .inr (.inl (vp_updL fo (0 : Int32).toNatClampNeg 20))))] H := hP
  have hD : va_D A [(o, .inl (E 1, 1, .inr (.inl (vp_updL fo (0 : Int32).toNatClampNeg 20))))] := hD
  refine lv_goto (tgt := 23) hx hb dL_feed_16 (by decide) ?_
  refine lv_iconst (v := 0) hx hb dL_feed_23 (by decide) ?_
  exact m_i () hx hb hr hlocks rfl trivial (hP.sub [0] rfl) (hD.sub [0] (by decide) rfl) hS (by decide) (by decide) dL_feed_24
set_option maxRecDepth 20000 in
set_option maxHeartbeats 2000000 in
theorem h_end_0 (l : Launch) (D : va_G) (E : Nat → ClassId) (sa : Nat → Nat) (a : Nat) (p_tape : Nat) (p_graph : Nat) (p_reader : Nat) (p_ahead : Nat) (p_back : Nat) (p_trail : Nat) (p_landmarks : Nat) (p_hierarchy : Nat) (p_route : Nat) (p_scratch : Nat) (p_toldRow : Nat) (t_bytes : Nat) (o : Nat) (fo : Nat → Int64) : KM l yL_end (.codeWith yL_end cL_end 4 (some .int) [(0, 9, 12, 19)]) 25 821 0 0 D E sa [.ref a, .int 0, .ref o] [(a, .inr (9, [.ref p_tape, .ref p_graph, .ref p_reader, .ref p_ahead, .ref p_back, .ref p_trail, .ref p_landmarks, .ref p_hierarchy, .ref p_route, .ref p_scratch, .ref p_toldRow, .int 0, .int 0])), (p_tape, .inr (6, [.ref t_bytes, .int 0])), (o, .inl (E 1, 1, .inr (.inl fo)))] (S := Unit) (fun _ => some (.int 0)) (fun _ => True) (fun _ => [(o, .inl (E 1, 1, .inr (.inl (vp_updL fo (0 : Int32).toNatClampNeg 0))))]) := by
  refine KM.ofH (by decide) (Nat.le_of_ble_eq_true rfl) ?_
  intro p e s m below meth c A ls hx hb hr hts hml hown hlocks htab hK hP hD hA hS hZ hl
  have hown : s.vm.findClass RL = some m.cls := hown
  have hl : lv_has ls 4 [(0, .ref a), (1, .int 0), (2, .ref o)] := hl
  refine lv_aload_n hx hb dL_end_0 rfl (lv_at hl 2 rfl) ?_
  refine lv_iconst (v := 0) hx hb dL_end_1 (by decide) ?_
  refine lv_aload_n hx hb dL_end_2 rfl (lv_at hl 0 rfl) ?_
  refine lv_iload_n hx hb dL_end_3 rfl (lv_at hl 1 rfl) ?_
  refine k_MV (As := [.int 0]) (rest := [.int 0, .ref o]) (ci := 9) (q0 := 0) (wr := [(o, .inl (E 1, 1, .inr (.inl fo)))]) ⟨hx, hb, hml, hown, hts⟩ (c_end l D E sa a p_tape p_graph p_reader p_ahead p_back p_trail p_landmarks p_hierarchy p_route p_scratch p_toldRow t_bytes) b_936 b_937 b_938 b_78 b_939 ⟨rfl, hd_X9_end⟩ ⟨⟨by decide, by decide⟩, by decide, by decide⟩ hK hP hD hS hA hZ [0, 1] [2] rfl rfl (by decide) rfl rfl rfl hl.1 (Nat.le_of_ble_eq_true rfl) dL_end_4 (fun u_1 H locs hu hP hD hS _ => ?_)
  have hP : va_P D k_cl [(o, .inl (E 1, 1, .inr (.inl fo)))] H := hP
  have hD : va_D A [(o, .inl (E 1, 1, .inr (.inl fo)))] := hD
  refine W.eq (g2 := F0 m 7 ls [.int 0, .int 0, .ref o]) rfl ?_
  refine lv_i2l (v := 0) hx hb dL_end_7 (by decide) ?_
  refine va_last hx hb hK hP hD hS 0 1 rfl rfl (by unfold vp_in; decide) dL_end_8 (fun H locs hP hD hS => ?_)
  have hP : va_P D k_cl [(o, .inl (E 1, 1, .inr (.inl (vp_updL fo (0 : Int32).toNatClampNeg 0))))] H := hP
  have hD : va_D A [(o, .inl (E 1, 1, .inr (.inl (vp_updL fo (0 : Int32).toNatClampNeg 0))))] := hD
  refine lv_goto (tgt := 15) hx hb dL_end_9 (by decide) ?_
  refine lv_iconst (v := 0) hx hb dL_end_15 (by decide) ?_
  exact m_i () hx hb hr hlocks rfl trivial (hP.sub [0] rfl) (hD.sub [0] (by decide) rfl) hS (by decide) (by decide) dL_end_16
set_option maxRecDepth 20000 in
set_option maxHeartbeats 2000000 in
theorem h_end_t (l : Launch) (D : va_G) (E : Nat → ClassId) (sa : Nat → Nat) (hl9 : l.stackTraces = false) (a : Nat) (p_tape : Nat) (p_graph : Nat) (p_reader : Nat) (p_ahead : Nat) (p_back : Nat) (p_trail : Nat) (p_landmarks : Nat) (p_hierarchy : Nat) (p_route : Nat) (p_scratch : Nat) (p_toldRow : Nat) (t_bytes : Nat) (v : Int32) (o : Nat) (fo : Nat → Int64) (h : ¬ v = 0) : KM l yL_end (.codeWith yL_end cL_end 4 (some .int) [(0, 9, 12, 19)]) 25 821 1 6 D E sa [.ref a, .int v, .ref o] [(a, .inr (9, [.ref p_tape, .ref p_graph, .ref p_reader, .ref p_ahead, .ref p_back, .ref p_trail, .ref p_landmarks, .ref p_hierarchy, .ref p_route, .ref p_scratch, .ref p_toldRow, .int 0, .int 0])), (p_tape, .inr (6, [.ref t_bytes, .int 0])), (o, .inl (E 1, 1, .inr (.inl fo)))] (S := Unit) (fun _ => some (.int 1)) (fun _ => True) (fun _ => [(o, .inl (E 1, 1, .inr (.inl fo)))]) := by
  refine KM.ofH (by decide) (Nat.le_of_ble_eq_true rfl) ?_
  intro p e s m below meth c A ls hx hb hr hts hml hown hlocks htab hK hP hD hA hS hZ hl
  have hown : s.vm.findClass RL = some m.cls := hown
  have hl : lv_has ls 4 [(0, .ref a), (1, .int v), (2, .ref o)] := hl
  refine lv_aload_n hx hb dL_end_0 rfl (lv_at hl 2 rfl) ?_
  refine lv_iconst (v := 0) hx hb dL_end_1 (by decide) ?_
  refine lv_aload_n hx hb dL_end_2 rfl (lv_at hl 0 rfl) ?_
  refine lv_iload_n hx hb dL_end_3 rfl (lv_at hl 1 rfl) ?_
  refine x_caught (A := A) (x_run (As := [.int v]) (rest := [.int 0, .ref o]) (ci := 9) (q0 := 0) ⟨hx, hb, hml, hown, hts⟩ (t_end l D E sa hl9 a p_tape p_graph p_reader p_ahead p_back p_trail p_landmarks p_hierarchy p_route p_scratch p_toldRow t_bytes v (h)) b_936 b_937 b_938 b_78 b_939 ⟨rfl, hd_X9_end⟩ ⟨⟨by decide, by decide⟩, by decide, by decide⟩ hK hP (hZ.narrow hA) [0, 1] rfl rfl rfl rfl hl.1 (Nat.le_of_ble_eq_true rfl) dL_end_4) hown htab (by decide) (by decide) hts b_935 hZ.2.2.2.2.2.1 hP hA (fun q9 H locs hP hS => ?_)
  refine lv_astore_n (lv' := [(3, .ref q9), (0, .ref a), (1, .int v), (2, .ref o)]) hx hb dL_end_12 rfl hl (by decide) rfl (fun ls hl => ?_)
  refine lv_iconst (v := 1) hx hb dL_end_13 (by decide) ?_
  exact m_i () hx hb hr hlocks rfl trivial (hP.sub [2] rfl) (hD.sub [2] (by decide) rfl) hS (by decide) (by decide) dL_end_14
set_option maxRecDepth 20000 in
set_option maxHeartbeats 2000000 in
theorem h_node (l : Launch) (D : va_G) (E : Nat → ClassId) (sa : Nat → Nat) (a : Nat) (p_tape : Nat) (p_graph : Nat) (p_reader : Nat) (p_ahead : Nat) (p_back : Nat) (p_trail : Nat) (p_landmarks : Nat) (p_hierarchy : Nat) (p_route : Nat) (p_scratch : Nat) (p_toldRow : Nat) (g_xs : Nat) (g_ys : Nat) (g_potentials : Nat) (g_tails : Nat) (g_heads : Nat) (g_weights : Nat) (g_net : Nat) (n_lengths : Nat) (n_counts : Nat) (n_overs : Nat) (n_arcNumbers : Nat) (n_left : Nat) (h_net : Nat) (h_ranks : Nat) (h_row : Nat) (h_witnesses : Nat) (h_contractedBeside : Nat) (h_wantedFrom : Nat) (h_wantedTo : Nat) (r_nodes : Nat) (r_lengths : Nat) (r_counts : Nat) (r_seen : Nat) (o_relaxedFrom : Nat) (o_relaxedTo : Nat) (o_walk : Nat) (o_upLengths : Nat) (o_upCounts : Nat) (o_downLengths : Nat) (o_downCounts : Nat) (o_chain : Nat) (v : Int32) (w : Int32) (o : Nat) (fo : Nat → Int64) (hv : ((-1000000 : Int32) ≤ v ∧ v ≤ 1000000)) (hw : ((-1000000 : Int32) ≤ w ∧ w ≤ 1000000)) : KM l yL_node (.codeWith yL_node cL_node 5 (some .int) [(0, 10, 13, 19), (0, 10, 17, 13)]) 64 2092 0 0 D E sa [.ref a, .int v, .int w, .ref o] [(a, .inr (9, [.ref p_tape, .ref p_graph, .ref p_reader, .ref p_ahead, .ref p_back, .ref p_trail, .ref p_landmarks, .ref p_hierarchy, .ref p_route, .ref p_scratch, .ref p_toldRow, .int 0, .int 0])), (p_graph, .inr (0, [.ref g_xs, .ref g_ys, .ref g_potentials, .ref g_tails, .ref g_heads, .ref g_weights, .ref g_net, .int 0, .int 0, .long 0])), (g_xs, .inl (E 0, 24, .inl (fun _ => 0))), (g_ys, .inl (E 0, 24, .inl (fun _ => 0))), (g_potentials, .inl (E 1, 24, .inr (.inl (fun _ => 0)))), (g_net, .inr (3, [.ref n_lengths, .ref n_counts, .ref n_overs, .ref n_arcNumbers, .ref n_left, .int 0])), (n_counts, .inl (E 0, 576, .inl (fun _ => 0))), (n_left, .inl (E 3, 24, .inl (fun _ => 0))), (p_hierarchy, .inr (1, [.ref h_net, .ref h_ranks, .ref h_row, .int 0, .int 0, .int 0, .int 4, .int 2, .int 1, .ref h_witnesses, .ref h_contractedBeside, .ref h_wantedFrom, .ref h_wantedTo, .int 0])), (p_trail, .inr (7, [.ref r_nodes, .ref r_lengths, .ref r_counts, .int 0, .ref r_seen])), (p_route, .inr (5, [.ref o_relaxedFrom, .ref o_relaxedTo, .ref o_walk, .int 0, .int 0, .int 0, .int 0, .int 0, .int 0, .int 0, .int (-1), .long 0, .ref o_upLengths, .ref o_upCounts, .ref o_downLengths, .ref o_downCounts, .ref o_chain])), (o, .inl (E 1, 1, .inr (.inl fo)))] (S := Unit) (fun _ => some (.int 0)) (fun _ => True) (fun _ => [(o, .inl (E 1, 1, .inr (.inl (vp_updL fo (0 : Int32).toNatClampNeg 0))))]) := by
  refine KM.ofH (by decide) (Nat.le_of_ble_eq_true rfl) ?_
  intro p e s m below meth c A ls hx hb hr hts hml hown hlocks htab hK hP hD hA hS hZ hl
  have hown : s.vm.findClass RL = some m.cls := hown
  have hl : lv_has ls 5 [(0, .ref a), (1, .int v), (2, .int w), (3, .ref o)] := hl
  refine lv_aload_n hx hb dL_node_0 rfl (lv_at hl 3 rfl) ?_
  refine lv_iconst (v := 0) hx hb dL_node_1 (by decide) ?_
  refine lv_aload_n hx hb dL_node_2 rfl (lv_at hl 0 rfl) ?_
  refine lv_iload_n hx hb dL_node_3 rfl (lv_at hl 1 rfl) ?_
  refine lv_iload_n hx hb dL_node_4 rfl (lv_at hl 2 rfl) ?_
  refine k_MV (As := [.int v, .int w]) (rest := [.int 0, .ref o]) (ci := 9) (q0 := 0) (wr := [(o, .inl (E 1, 1, .inr (.inl fo)))]) ⟨hx, hb, hml, hown, hts⟩ (c_node l D E sa a p_tape p_graph p_reader p_ahead p_back p_trail p_landmarks p_hierarchy p_route p_scratch p_toldRow g_xs g_ys g_potentials g_tails g_heads g_weights g_net n_lengths n_counts n_overs n_arcNumbers n_left h_net h_ranks h_row h_witnesses h_contractedBeside h_wantedFrom h_wantedTo r_nodes r_lengths r_counts r_seen o_relaxedFrom o_relaxedTo o_walk o_upLengths o_upCounts o_downLengths o_downCounts o_chain v w (hv) (hw)) b_959 b_960 b_961 b_78 b_962 ⟨rfl, hd_X9_node⟩ ⟨⟨by decide, by decide⟩, by decide, by decide⟩ hK hP hD hS hA hZ [0, 1, 2, 3, 4, 5, 6, 7, 8, 9, 10] [11] rfl rfl (by decide) rfl rfl rfl hl.1 (Nat.le_of_ble_eq_true rfl) dL_node_5 (fun u_1 H locs hu hP hD hS _ => ?_)
  have hP : va_P D k_cl [(o, .inl (E 1, 1, .inr (.inl fo)))] H := hP
  have hD : va_D A [(o, .inl (E 1, 1, .inr (.inl fo)))] := hD
  refine W.eq (g2 := F0 m 8 ls [.int 0, .int 0, .ref o]) rfl ?_
  refine lv_i2l (v := 0) hx hb dL_node_8 (by decide) ?_
  refine va_last hx hb hK hP hD hS 0 1 rfl rfl (by unfold vp_in; decide) dL_node_9 (fun H locs hP hD hS => ?_)
  have hP : va_P D k_cl [(o, .inl (E 1, 1, .inr (.inl (vp_updL fo (0 : Int32).toNatClampNeg 0))))] H := hP
  have hD : va_D A [(o, .inl (E 1, 1, .inr (.inl (vp_updL fo (0 : Int32).toNatClampNeg 0))))] := hD
  refine lv_goto (tgt := 21) hx hb dL_node_10 (by decide) ?_
  refine lv_iconst (v := 0) hx hb dL_node_21 (by decide) ?_
  exact m_i () hx hb hr hlocks rfl trivial (hP.sub [0] rfl) (hD.sub [0] (by decide) rfl) hS (by decide) (by decide) dL_node_22
set_option maxRecDepth 20000 in
set_option maxHeartbeats 2000000 in
theorem h_node_a (l : Launch) (D : va_G) (E : Nat → ClassId) (sa : Nat → Nat) (hl9 : l.stackTraces = false) (a : Nat) (p_tape : Nat) (p_graph : Nat) (p_reader : Nat) (p_ahead : Nat) (p_back : Nat) (p_trail : Nat) (p_landmarks : Nat) (p_hierarchy : Nat) (p_route : Nat) (p_scratch : Nat) (p_toldRow : Nat) (v : Int32) (w : Int32) (o : Nat) (fo : Nat → Int64) (h : ¬ ((-1000000 : Int32) ≤ v ∧ v ≤ 1000000)) : KM l yL_node (.codeWith yL_node cL_node 5 (some .int) [(0, 10, 13, 19), (0, 10, 17, 13)]) 38 1244 1 6 D E sa [.ref a, .int v, .int w, .ref o] [(a, .inr (9, [.ref p_tape, .ref p_graph, .ref p_reader, .ref p_ahead, .ref p_back, .ref p_trail, .ref p_landmarks, .ref p_hierarchy, .ref p_route, .ref p_scratch, .ref p_toldRow, .int 0, .int 0])), (o, .inl (E 1, 1, .inr (.inl fo)))] (S := Unit) (fun _ => some (.int 1)) (fun _ => True) (fun _ => [(o, .inl (E 1, 1, .inr (.inl fo)))]) := by
  refine KM.ofH (by decide) (Nat.le_of_ble_eq_true rfl) ?_
  intro p e s m below meth c A ls hx hb hr hts hml hown hlocks htab hK hP hD hA hS hZ hl
  have hown : s.vm.findClass RL = some m.cls := hown
  have hl : lv_has ls 5 [(0, .ref a), (1, .int v), (2, .int w), (3, .ref o)] := hl
  refine lv_aload_n hx hb dL_node_0 rfl (lv_at hl 3 rfl) ?_
  refine lv_iconst (v := 0) hx hb dL_node_1 (by decide) ?_
  refine lv_aload_n hx hb dL_node_2 rfl (lv_at hl 0 rfl) ?_
  refine lv_iload_n hx hb dL_node_3 rfl (lv_at hl 1 rfl) ?_
  refine lv_iload_n hx hb dL_node_4 rfl (lv_at hl 2 rfl) ?_
  refine x_caught (A := A) (x_run (As := [.int v, .int w]) (rest := [.int 0, .ref o]) (ci := 9) (q0 := 0) ⟨hx, hb, hml, hown, hts⟩ (t_node_a l D E sa hl9 a p_tape p_graph p_reader p_ahead p_back p_trail p_landmarks p_hierarchy p_route p_scratch p_toldRow v w (h)) b_959 b_960 b_961 b_78 b_962 ⟨rfl, hd_X9_node⟩ ⟨⟨by decide, by decide⟩, by decide, by decide⟩ hK hP (hZ.narrow hA) [0] rfl rfl rfl rfl hl.1 (Nat.le_of_ble_eq_true rfl) dL_node_5) hown htab (by decide) (by decide) hts b_935 hZ.2.2.2.2.2.1 hP hA (fun q9 H locs hP hS => ?_)
  refine lv_astore (lv' := [(4, .ref q9), (0, .ref a), (1, .int v), (2, .int w), (3, .ref o)]) hx hb dL_node_13 hl (by decide) rfl (fun ls hl => ?_)
  refine lv_iconst (v := 1) hx hb dL_node_15 (by decide) ?_
  exact m_i () hx hb hr hlocks rfl trivial (hP.sub [1] rfl) (hD.sub [1] (by decide) rfl) hS (by decide) (by decide) dL_node_16
set_option maxRecDepth 20000 in
set_option maxHeartbeats 2000000 in
theorem h_node_b (l : Launch) (D : va_G) (E : Nat → ClassId) (sa : Nat → Nat) (hl9 : l.stackTraces = false) (a : Nat) (p_tape : Nat) (p_graph : Nat) (p_reader : Nat) (p_ahead : Nat) (p_back : Nat) (p_trail : Nat) (p_landmarks : Nat) (p_hierarchy : Nat) (p_route : Nat) (p_scratch : Nat) (p_toldRow : Nat) (v : Int32) (w : Int32) (o : Nat) (fo : Nat → Int64) (hv : ((-1000000 : Int32) ≤ v ∧ v ≤ 1000000)) (h : ¬ ((-1000000 : Int32) ≤ w ∧ w ≤ 1000000)) : KM l yL_node (.codeWith yL_node cL_node 5 (some .int) [(0, 10, 13, 19), (0, 10, 17, 13)]) 38 1244 1 6 D E sa [.ref a, .int v, .int w, .ref o] [(a, .inr (9, [.ref p_tape, .ref p_graph, .ref p_reader, .ref p_ahead, .ref p_back, .ref p_trail, .ref p_landmarks, .ref p_hierarchy, .ref p_route, .ref p_scratch, .ref p_toldRow, .int 0, .int 0])), (o, .inl (E 1, 1, .inr (.inl fo)))] (S := Unit) (fun _ => some (.int 1)) (fun _ => True) (fun _ => [(o, .inl (E 1, 1, .inr (.inl fo)))]) := by
  refine KM.ofH (by decide) (Nat.le_of_ble_eq_true rfl) ?_
  intro p e s m below meth c A ls hx hb hr hts hml hown hlocks htab hK hP hD hA hS hZ hl
  have hown : s.vm.findClass RL = some m.cls := hown
  have hl : lv_has ls 5 [(0, .ref a), (1, .int v), (2, .int w), (3, .ref o)] := hl
  refine lv_aload_n hx hb dL_node_0 rfl (lv_at hl 3 rfl) ?_
  refine lv_iconst (v := 0) hx hb dL_node_1 (by decide) ?_
  refine lv_aload_n hx hb dL_node_2 rfl (lv_at hl 0 rfl) ?_
  refine lv_iload_n hx hb dL_node_3 rfl (lv_at hl 1 rfl) ?_
  refine lv_iload_n hx hb dL_node_4 rfl (lv_at hl 2 rfl) ?_
  refine x_caught (A := A) (x_run (As := [.int v, .int w]) (rest := [.int 0, .ref o]) (ci := 9) (q0 := 0) ⟨hx, hb, hml, hown, hts⟩ (t_node_b l D E sa hl9 a p_tape p_graph p_reader p_ahead p_back p_trail p_landmarks p_hierarchy p_route p_scratch p_toldRow v w (hv) (h)) b_959 b_960 b_961 b_78 b_962 ⟨rfl, hd_X9_node⟩ ⟨⟨by decide, by decide⟩, by decide, by decide⟩ hK hP (hZ.narrow hA) [0] rfl rfl rfl rfl hl.1 (Nat.le_of_ble_eq_true rfl) dL_node_5) hown htab (by decide) (by decide) hts b_935 hZ.2.2.2.2.2.1 hP hA (fun q9 H locs hP hS => ?_)
  refine lv_astore (lv' := [(4, .ref q9), (0, .ref a), (1, .int v), (2, .int w), (3, .ref o)]) hx hb dL_node_13 hl (by decide) rfl (fun ls hl => ?_)
  refine lv_iconst (v := 1) hx hb dL_node_15 (by decide) ?_
  exact m_i () hx hb hr hlocks rfl trivial (hP.sub [1] rfl) (hD.sub [1] (by decide) rfl) hS (by decide) (by decide) dL_node_16
set_option maxRecDepth 20000 in
set_option maxHeartbeats 2000000 in
theorem h_arc (l : Launch) (D : va_G) (E : Nat → ClassId) (sa : Nat → Nat) (hl9 : l.stackTraces = false) (a : Nat) (p_tape : Nat) (p_graph : Nat) (p_reader : Nat) (p_ahead : Nat) (p_back : Nat) (p_trail : Nat) (p_landmarks : Nat) (p_hierarchy : Nat) (p_route : Nat) (p_scratch : Nat) (p_toldRow : Nat) (g_xs : Nat) (g_ys : Nat) (g_potentials : Nat) (g_tails : Nat) (g_heads : Nat) (g_weights : Nat) (g_net : Nat) (v0 : Int32) (v1 : Int32) (w : Int64) (o : Nat) (fo : Nat → Int64) : KM l yL_arc (.codeWith yL_arc cL_arc 7 (some .int) [(0, 12, 15, 29), (0, 12, 19, 19), (0, 12, 23, 13), (0, 12, 27, 31)]) 51 1669 1 6 D E sa [.ref a, .int v0, .int v1, .long w, .ref o] [(a, .inr (9, [.ref p_tape, .ref p_graph, .ref p_reader, .ref p_ahead, .ref p_back, .ref p_trail, .ref p_landmarks, .ref p_hierarchy, .ref p_route, .ref p_scratch, .ref p_toldRow, .int 0, .int 0])), (p_graph, .inr (0, [.ref g_xs, .ref g_ys, .ref g_potentials, .ref g_tails, .ref g_heads, .ref g_weights, .ref g_net, .int 0, .int 0, .long 0])), (o, .inl (E 1, 1, .inr (.inl fo)))] (S := Unit) (fun _ => some (.int 1)) (fun _ => True) (fun _ => [(o, .inl (E 1, 1, .inr (.inl fo)))]) := by
  refine KM.ofH (by decide) (Nat.le_of_ble_eq_true rfl) ?_
  intro p e s m below meth c A ls hx hb hr hts hml hown hlocks htab hK hP hD hA hS hZ hl
  have hown : s.vm.findClass RL = some m.cls := hown
  have hl : lv_has ls 7 [(0, .ref a), (1, .int v0), (2, .int v1), (3, .long w), (5, .ref o)] := hl
  refine lv_aload hx hb dL_arc_0 (lv_at hl 4 rfl) ?_
  refine lv_iconst (v := 0) hx hb dL_arc_2 (by decide) ?_
  refine lv_aload_n hx hb dL_arc_3 rfl (lv_at hl 0 rfl) ?_
  refine lv_iload_n hx hb dL_arc_4 rfl (lv_at hl 1 rfl) ?_
  refine lv_iload_n hx hb dL_arc_5 rfl (lv_at hl 2 rfl) ?_
  refine lv_lload_n hx hb dL_arc_6 rfl (lv_at hl 3 rfl) ?_
  refine x_caught (A := A) (x_run (As := [.int v0, .int v1, .long w]) (rest := [.int 0, .ref o]) (ci := 9) (q0 := 0) ⟨hx, hb, hml, hown, hts⟩ (t_arc l D E sa hl9 a p_tape p_graph p_reader p_ahead p_back p_trail p_landmarks p_hierarchy p_route p_scratch p_toldRow g_xs g_ys g_potentials g_tails g_heads g_weights g_net v0 v1 w) b_975 b_976 b_977 b_78 b_978 ⟨rfl, hd_X9_arc⟩ ⟨⟨by decide, by decide⟩, by decide, by decide⟩ hK hP (hZ.narrow hA) [0, 1] rfl rfl rfl rfl hl.1 (Nat.le_of_ble_eq_true rfl) dL_arc_7) hown htab (by decide) (by decide) hts b_973 hZ.2.2.2.2.1 hP hA (fun q9 H locs hP hS => ?_)
  refine lv_astore (lv' := [(6, .ref q9), (0, .ref a), (1, .int v0), (2, .int v1), (3, .long w), (5, .ref o)]) hx hb dL_arc_15 hl (by decide) rfl (fun ls hl => ?_)
  refine lv_iconst (v := 1) hx hb dL_arc_17 (by decide) ?_
  exact m_i () hx hb hr hlocks rfl trivial (hP.sub [2] rfl) (hD.sub [2] (by decide) rfl) hS (by decide) (by decide) dL_arc_18
set_option maxRecDepth 20000 in
set_option maxHeartbeats 2000000 in
theorem h_weigh (l : Launch) (D : va_G) (E : Nat → ClassId) (sa : Nat → Nat) (hl9 : l.stackTraces = false) (a : Nat) (p_tape : Nat) (p_graph : Nat) (p_reader : Nat) (p_ahead : Nat) (p_back : Nat) (p_trail : Nat) (p_landmarks : Nat) (p_hierarchy : Nat) (p_route : Nat) (p_scratch : Nat) (p_toldRow : Nat) (g_xs : Nat) (g_ys : Nat) (g_potentials : Nat) (g_tails : Nat) (g_heads : Nat) (g_weights : Nat) (g_net : Nat) (v0 : Int32) (w : Int64) (o : Nat) (fo : Nat → Int64) : KM l yL_weigh (.codeWith yL_weigh cL_weigh 6 (some .int) [(0, 10, 13, 29), (0, 10, 17, 19), (0, 10, 21, 31)]) 38 1248 1 6 D E sa [.ref a, .int v0, .long w, .ref o] [(a, .inr (9, [.ref p_tape, .ref p_graph, .ref p_reader, .ref p_ahead, .ref p_back, .ref p_trail, .ref p_landmarks, .ref p_hierarchy, .ref p_route, .ref p_scratch, .ref p_toldRow, .int 0, .int 0])), (p_graph, .inr (0, [.ref g_xs, .ref g_ys, .ref g_potentials, .ref g_tails, .ref g_heads, .ref g_weights, .ref g_net, .int 0, .int 0, .long 0])), (o, .inl (E 1, 1, .inr (.inl fo)))] (S := Unit) (fun _ => some (.int 1)) (fun _ => True) (fun _ => [(o, .inl (E 1, 1, .inr (.inl fo)))]) := by
  refine KM.ofH (by decide) (Nat.le_of_ble_eq_true rfl) ?_
  intro p e s m below meth c A ls hx hb hr hts hml hown hlocks htab hK hP hD hA hS hZ hl
  have hown : s.vm.findClass RL = some m.cls := hown
  have hl : lv_has ls 6 [(0, .ref a), (1, .int v0), (2, .long w), (4, .ref o)] := hl
  refine lv_aload hx hb dL_weigh_0 (lv_at hl 3 rfl) ?_
  refine lv_iconst (v := 0) hx hb dL_weigh_2 (by decide) ?_
  refine lv_aload_n hx hb dL_weigh_3 rfl (lv_at hl 0 rfl) ?_
  refine lv_iload_n hx hb dL_weigh_4 rfl (lv_at hl 1 rfl) ?_
  refine lv_lload_n hx hb dL_weigh_5 rfl (lv_at hl 2 rfl) ?_
  refine x_caught (A := A) (x_run (As := [.int v0, .long w]) (rest := [.int 0, .ref o]) (ci := 9) (q0 := 0) ⟨hx, hb, hml, hown, hts⟩ (t_weigh l D E sa hl9 a p_tape p_graph p_reader p_ahead p_back p_trail p_landmarks p_hierarchy p_route p_scratch p_toldRow g_xs g_ys g_potentials g_tails g_heads g_weights g_net v0 w) b_1031 b_1032 b_1033 b_78 b_1034 ⟨rfl, hd_X9_weigh⟩ ⟨⟨by decide, by decide⟩, by decide, by decide⟩ hK hP (hZ.narrow hA) [0, 1] rfl rfl rfl rfl hl.1 (Nat.le_of_ble_eq_true rfl) dL_weigh_6) hown htab (by decide) (by decide) hts b_973 hZ.2.2.2.2.1 hP hA (fun q9 H locs hP hS => ?_)
  refine lv_astore (lv' := [(5, .ref q9), (0, .ref a), (1, .int v0), (2, .long w), (4, .ref o)]) hx hb dL_weigh_13 hl (by decide) rfl (fun ls hl => ?_)
  refine lv_iconst (v := 1) hx hb dL_weigh_15 (by decide) ?_
  exact m_i () hx hb hr hlocks rfl trivial (hP.sub [2] rfl) (hD.sub [2] (by decide) rfl) hS (by decide) (by decide) dL_weigh_16
set_option maxRecDepth 20000 in
set_option maxHeartbeats 2000000 in
theorem h_search (l : Launch) (D : va_G) (E : Nat → ClassId) (sa : Nat → Nat) (hl9 : l.stackTraces = false) (a : Nat) (p_tape : Nat) (p_graph : Nat) (p_reader : Nat) (p_ahead : Nat) (p_back : Nat) (p_trail : Nat) (p_landmarks : Nat) (p_hierarchy : Nat) (p_route : Nat) (p_scratch : Nat) (p_toldRow : Nat) (g_xs : Nat) (g_ys : Nat) (g_potentials : Nat) (g_tails : Nat) (g_heads : Nat) (g_weights : Nat) (g_net : Nat) (v0 : Int32) (o : Nat) (fo : Nat → Int64) : KM l yL_search (.codeWith yL_search cL_search 4 (some .int) [(0, 9, 12, 29)]) 51 1663 1 6 D E sa [.ref a, .int v0, .ref o] [(a, .inr (9, [.ref p_tape, .ref p_graph, .ref p_reader, .ref p_ahead, .ref p_back, .ref p_trail, .ref p_landmarks, .ref p_hierarchy, .ref p_route, .ref p_scratch, .ref p_toldRow, .int 0, .int 0])), (p_graph, .inr (0, [.ref g_xs, .ref g_ys, .ref g_potentials, .ref g_tails, .ref g_heads, .ref g_weights, .ref g_net, .int 0, .int 0, .long 0])), (o, .inl (E 1, 1, .inr (.inl fo)))] (S := Unit) (fun _ => some (.int 1)) (fun _ => True) (fun _ => [(o, .inl (E 1, 1, .inr (.inl fo)))]) := by
  refine KM.ofH (by decide) (Nat.le_of_ble_eq_true rfl) ?_
  intro p e s m below meth c A ls hx hb hr hts hml hown hlocks htab hK hP hD hA hS hZ hl
  have hown : s.vm.findClass RL = some m.cls := hown
  have hl : lv_has ls 4 [(0, .ref a), (1, .int v0), (2, .ref o)] := hl
  refine lv_aload_n hx hb dL_search_0 rfl (lv_at hl 2 rfl) ?_
  refine lv_iconst (v := 0) hx hb dL_search_1 (by decide) ?_
  refine lv_aload_n hx hb dL_search_2 rfl (lv_at hl 0 rfl) ?_
  refine lv_iload_n hx hb dL_search_3 rfl (lv_at hl 1 rfl) ?_
  refine x_caught (A := A) (x_run (As := [.int v0]) (rest := [.int 0, .ref o]) (ci := 9) (q0 := 0) ⟨hx, hb, hml, hown, hts⟩ (t_search l D E sa hl9 a p_tape p_graph p_reader p_ahead p_back p_trail p_landmarks p_hierarchy p_route p_scratch p_toldRow g_xs g_ys g_potentials g_tails g_heads g_weights g_net v0) b_1039 b_1040 b_1041 b_78 b_1042 ⟨rfl, hd_X9_search⟩ ⟨⟨by decide, by decide⟩, by decide, by decide⟩ hK hP (hZ.narrow hA) [0, 1] rfl rfl rfl rfl hl.1 (Nat.le_of_ble_eq_true rfl) dL_search_4) hown htab (by decide) (by decide) hts b_973 hZ.2.2.2.2.1 hP hA (fun q9 H locs hP hS => ?_)
  refine lv_astore_n (lv' := [(3, .ref q9), (0, .ref a), (1, .int v0), (2, .ref o)]) hx hb dL_search_12 rfl hl (by decide) rfl (fun ls hl => ?_)
  refine lv_iconst (v := 1) hx hb dL_search_13 (by decide) ?_
  exact m_i () hx hb hr hlocks rfl trivial (hP.sub [2] rfl) (hD.sub [2] (by decide) rfl) hS (by decide) (by decide) dL_search_14
set_option maxRecDepth 20000 in
set_option maxHeartbeats 2000000 in
theorem h_goal (l : Launch) (D : va_G) (E : Nat → ClassId) (sa : Nat → Nat) (hl9 : l.stackTraces = false) (a : Nat) (p_tape : Nat) (p_graph : Nat) (p_reader : Nat) (p_ahead : Nat) (p_back : Nat) (p_trail : Nat) (p_landmarks : Nat) (p_hierarchy : Nat) (p_route : Nat) (p_scratch : Nat) (p_toldRow : Nat) (g_xs : Nat) (g_ys : Nat) (g_potentials : Nat) (g_tails : Nat) (g_heads : Nat) (g_weights : Nat) (g_net : Nat) (v0 : Int32) (v1 : Int32) (o : Nat) (fo : Nat → Int64) : KM l yL_goal (.codeWith yL_goal cL_goal 5 (some .int) [(0, 10, 13, 29), (0, 10, 17, 13)]) 51 1664 1 6 D E sa [.ref a, .int v0, .int v1, .ref o] [(a, .inr (9, [.ref p_tape, .ref p_graph, .ref p_reader, .ref p_ahead, .ref p_back, .ref p_trail, .ref p_landmarks, .ref p_hierarchy, .ref p_route, .ref p_scratch, .ref p_toldRow, .int 0, .int 0])), (p_graph, .inr (0, [.ref g_xs, .ref g_ys, .ref g_potentials, .ref g_tails, .ref g_heads, .ref g_weights, .ref g_net, .int 0, .int 0, .long 0])), (o, .inl (E 1, 1, .inr (.inl fo)))] (S := Unit) (fun _ => some (.int 1)) (fun _ => True) (fun _ => [(o, .inl (E 1, 1, .inr (.inl fo)))]) := by
  refine KM.ofH (by decide) (Nat.le_of_ble_eq_true rfl) ?_
  intro p e s m below meth c A ls hx hb hr hts hml hown hlocks htab hK hP hD hA hS hZ hl
  have hown : s.vm.findClass RL = some m.cls := hown
  have hl : lv_has ls 5 [(0, .ref a), (1, .int v0), (2, .int v1), (3, .ref o)] := hl
  refine lv_aload_n hx hb dL_goal_0 rfl (lv_at hl 3 rfl) ?_
  refine lv_iconst (v := 0) hx hb dL_goal_1 (by decide) ?_
  refine lv_aload_n hx hb dL_goal_2 rfl (lv_at hl 0 rfl) ?_
  refine lv_iload_n hx hb dL_goal_3 rfl (lv_at hl 1 rfl) ?_
  refine lv_iload_n hx hb dL_goal_4 rfl (lv_at hl 2 rfl) ?_
  refine x_caught (A := A) (x_run (As := [.int v0, .int v1]) (rest := [.int 0, .ref o]) (ci := 9) (q0 := 0) ⟨hx, hb, hml, hown, hts⟩ (t_goal l D E sa hl9 a p_tape p_graph p_reader p_ahead p_back p_trail p_landmarks p_hierarchy p_route p_scratch p_toldRow g_xs g_ys g_potentials g_tails g_heads g_weights g_net v0 v1) b_1064 b_1065 b_1066 b_78 b_1067 ⟨rfl, hd_X9_goal⟩ ⟨⟨by decide, by decide⟩, by decide, by decide⟩ hK hP (hZ.narrow hA) [0, 1] rfl rfl rfl rfl hl.1 (Nat.le_of_ble_eq_true rfl) dL_goal_5) hown htab (by decide) (by decide) hts b_973 hZ.2.2.2.2.1 hP hA (fun q9 H locs hP hS => ?_)
  refine lv_astore (lv' := [(4, .ref q9), (0, .ref a), (1, .int v0), (2, .int v1), (3, .ref o)]) hx hb dL_goal_13 hl (by decide) rfl (fun ls hl => ?_)
  refine lv_iconst (v := 1) hx hb dL_goal_15 (by decide) ?_
  exact m_i () hx hb hr hlocks rfl trivial (hP.sub [2] rfl) (hD.sub [2] (by decide) rfl) hS (by decide) (by decide) dL_goal_16
set_option maxRecDepth 20000 in
set_option maxHeartbeats 2000000 in
theorem h_both (l : Launch) (D : va_G) (E : Nat → ClassId) (sa : Nat → Nat) (hl9 : l.stackTraces = false) (a : Nat) (p_tape : Nat) (p_graph : Nat) (p_reader : Nat) (p_ahead : Nat) (p_back : Nat) (p_trail : Nat) (p_landmarks : Nat) (p_hierarchy : Nat) (p_route : Nat) (p_scratch : Nat) (p_toldRow : Nat) (g_xs : Nat) (g_ys : Nat) (g_potentials : Nat) (g_tails : Nat) (g_heads : Nat) (g_weights : Nat) (g_net : Nat) (v0 : Int32) (v1 : Int32) (o : Nat) (fo : Nat → Int64) : KM l yL_both (.codeWith yL_both cL_both 5 (some .int) [(0, 10, 13, 29)]) 51 1664 1 6 D E sa [.ref a, .int v0, .int v1, .ref o] [(a, .inr (9, [.ref p_tape, .ref p_graph, .ref p_reader, .ref p_ahead, .ref p_back, .ref p_trail, .ref p_landmarks, .ref p_hierarchy, .ref p_route, .ref p_scratch, .ref p_toldRow, .int 0, .int 0])), (p_graph, .inr (0, [.ref g_xs, .ref g_ys, .ref g_potentials, .ref g_tails, .ref g_heads, .ref g_weights, .ref g_net, .int 0, .int 0, .long 0])), (o, .inl (E 1, 1, .inr (.inl fo)))] (S := Unit) (fun _ => some (.int 1)) (fun _ => True) (fun _ => [(o, .inl (E 1, 1, .inr (.inl fo)))]) := by
  refine KM.ofH (by decide) (Nat.le_of_ble_eq_true rfl) ?_
  intro p e s m below meth c A ls hx hb hr hts hml hown hlocks htab hK hP hD hA hS hZ hl
  have hown : s.vm.findClass RL = some m.cls := hown
  have hl : lv_has ls 5 [(0, .ref a), (1, .int v0), (2, .int v1), (3, .ref o)] := hl
  refine lv_aload_n hx hb dL_both_0 rfl (lv_at hl 3 rfl) ?_
  refine lv_iconst (v := 0) hx hb dL_both_1 (by decide) ?_
  refine lv_aload_n hx hb dL_both_2 rfl (lv_at hl 0 rfl) ?_
  refine lv_iload_n hx hb dL_both_3 rfl (lv_at hl 1 rfl) ?_
  refine lv_iload_n hx hb dL_both_4 rfl (lv_at hl 2 rfl) ?_
  refine x_caught (A := A) (x_run (As := [.int v0, .int v1]) (rest := [.int 0, .ref o]) (ci := 9) (q0 := 0) ⟨hx, hb, hml, hown, hts⟩ (t_both l D E sa hl9 a p_tape p_graph p_reader p_ahead p_back p_trail p_landmarks p_hierarchy p_route p_scratch p_toldRow g_xs g_ys g_potentials g_tails g_heads g_weights g_net v0 v1) b_1072 b_1073 b_1074 b_78 b_1075 ⟨rfl, hd_X9_both⟩ ⟨⟨by decide, by decide⟩, by decide, by decide⟩ hK hP (hZ.narrow hA) [0, 1] rfl rfl rfl rfl hl.1 (Nat.le_of_ble_eq_true rfl) dL_both_5) hown htab (by decide) (by decide) hts b_973 hZ.2.2.2.2.1 hP hA (fun q9 H locs hP hS => ?_)
  refine lv_astore (lv' := [(4, .ref q9), (0, .ref a), (1, .int v0), (2, .int v1), (3, .ref o)]) hx hb dL_both_13 hl (by decide) rfl (fun ls hl => ?_)
  refine lv_iconst (v := 1) hx hb dL_both_15 (by decide) ?_
  exact m_i () hx hb hr hlocks rfl trivial (hP.sub [2] rfl) (hD.sub [2] (by decide) rfl) hS (by decide) (by decide) dL_both_16
set_option maxRecDepth 20000 in
set_option maxHeartbeats 2000000 in
theorem h_landmarked (l : Launch) (D : va_G) (E : Nat → ClassId) (sa : Nat → Nat) (hl9 : l.stackTraces = false) (a : Nat) (p_tape : Nat) (p_graph : Nat) (p_reader : Nat) (p_ahead : Nat) (p_back : Nat) (p_trail : Nat) (p_landmarks : Nat) (p_hierarchy : Nat) (p_route : Nat) (p_scratch : Nat) (p_toldRow : Nat) (g_xs : Nat) (g_ys : Nat) (g_potentials : Nat) (g_tails : Nat) (g_heads : Nat) (g_weights : Nat) (g_net : Nat) (v0 : Int32) (v1 : Int32) (o : Nat) (fo : Nat → Int64) : KM l yL_landmarked (.codeWith yL_landmarked cL_landmarked 5 (some .int) [(0, 10, 13, 29), (0, 10, 17, 13)]) 51 1664 1 6 D E sa [.ref a, .int v0, .int v1, .ref o] [(a, .inr (9, [.ref p_tape, .ref p_graph, .ref p_reader, .ref p_ahead, .ref p_back, .ref p_trail, .ref p_landmarks, .ref p_hierarchy, .ref p_route, .ref p_scratch, .ref p_toldRow, .int 0, .int 0])), (p_graph, .inr (0, [.ref g_xs, .ref g_ys, .ref g_potentials, .ref g_tails, .ref g_heads, .ref g_weights, .ref g_net, .int 0, .int 0, .long 0])), (o, .inl (E 1, 1, .inr (.inl fo)))] (S := Unit) (fun _ => some (.int 1)) (fun _ => True) (fun _ => [(o, .inl (E 1, 1, .inr (.inl fo)))]) := by
  refine KM.ofH (by decide) (Nat.le_of_ble_eq_true rfl) ?_
  intro p e s m below meth c A ls hx hb hr hts hml hown hlocks htab hK hP hD hA hS hZ hl
  have hown : s.vm.findClass RL = some m.cls := hown
  have hl : lv_has ls 5 [(0, .ref a), (1, .int v0), (2, .int v1), (3, .ref o)] := hl
  refine lv_aload_n hx hb dL_landmarked_0 rfl (lv_at hl 3 rfl) ?_
  refine lv_iconst (v := 0) hx hb dL_landmarked_1 (by decide) ?_
  refine lv_aload_n hx hb dL_landmarked_2 rfl (lv_at hl 0 rfl) ?_
  refine lv_iload_n hx hb dL_landmarked_3 rfl (lv_at hl 1 rfl) ?_
  refine lv_iload_n hx hb dL_landmarked_4 rfl (lv_at hl 2 rfl) ?_
  refine x_caught (A := A) (x_run (As := [.int v0, .int v1]) (rest := [.int 0, .ref o]) (ci := 9) (q0 := 0) ⟨hx, hb, hml, hown, hts⟩ (t_landmarked l D E sa hl9 a p_tape p_graph p_reader p_ahead p_back p_trail p_landmarks p_hierarchy p_route p_scratch p_toldRow g_xs g_ys g_potentials g_tails g_heads g_weights g_net v0 v1) b_1091 b_1092 b_1093 b_78 b_1094 ⟨rfl, hd_X9_landmarked⟩ ⟨⟨by decide, by decide⟩, by decide, by decide⟩ hK hP (hZ.narrow hA) [0, 1] rfl rfl rfl rfl hl.1 (Nat.le_of_ble_eq_true rfl) dL_landmarked_5) hown htab (by decide) (by decide) hts b_973 hZ.2.2.2.2.1 hP hA (fun q9 H locs hP hS => ?_)
  refine lv_astore (lv' := [(4, .ref q9), (0, .ref a), (1, .int v0), (2, .int v1), (3, .ref o)]) hx hb dL_landmarked_13 hl (by decide) rfl (fun ls hl => ?_)
  refine lv_iconst (v := 1) hx hb dL_landmarked_15 (by decide) ?_
  exact m_i () hx hb hr hlocks rfl trivial (hP.sub [2] rfl) (hD.sub [2] (by decide) rfl) hS (by decide) (by decide) dL_landmarked_16
set_option maxRecDepth 20000 in
set_option maxHeartbeats 2000000 in
theorem h_potential (l : Launch) (D : va_G) (E : Nat → ClassId) (sa : Nat → Nat) (hl9 : l.stackTraces = false) (a : Nat) (p_tape : Nat) (p_graph : Nat) (p_reader : Nat) (p_ahead : Nat) (p_back : Nat) (p_trail : Nat) (p_landmarks : Nat) (p_hierarchy : Nat) (p_route : Nat) (p_scratch : Nat) (p_toldRow : Nat) (g_xs : Nat) (g_ys : Nat) (g_potentials : Nat) (g_tails : Nat) (g_heads : Nat) (g_weights : Nat) (g_net : Nat) (v0 : Int32) (w : Int64) (o : Nat) (fo : Nat → Int64) : KM l yL_potential (.codeWith yL_potential cL_potential 6 (some .int) [(0, 10, 13, 29), (0, 10, 17, 19), (0, 10, 21, 31)]) 51 1669 1 6 D E sa [.ref a, .int v0, .long w, .ref o] [(a, .inr (9, [.ref p_tape, .ref p_graph, .ref p_reader, .ref p_ahead, .ref p_back, .ref p_trail, .ref p_landmarks, .ref p_hierarchy, .ref p_route, .ref p_scratch, .ref p_toldRow, .int 0, .int 0])), (p_graph, .inr (0, [.ref g_xs, .ref g_ys, .ref g_potentials, .ref g_tails, .ref g_heads, .ref g_weights, .ref g_net, .int 0, .int 0, .long 0])), (o, .inl (E 1, 1, .inr (.inl fo)))] (S := Unit) (fun _ => some (.int 1)) (fun _ => True) (fun _ => [(o, .inl (E 1, 1, .inr (.inl fo)))]) := by
  refine KM.ofH (by decide) (Nat.le_of_ble_eq_true rfl) ?_
  intro p e s m below meth c A ls hx hb hr hts hml hown hlocks htab hK hP hD hA hS hZ hl
  have hown : s.vm.findClass RL = some m.cls := hown
  have hl : lv_has ls 6 [(0, .ref a), (1, .int v0), (2, .long w), (4, .ref o)] := hl
  refine lv_aload hx hb dL_potential_0 (lv_at hl 3 rfl) ?_
  refine lv_iconst (v := 0) hx hb dL_potential_2 (by decide) ?_
  refine lv_aload_n hx hb dL_potential_3 rfl (lv_at hl 0 rfl) ?_
  refine lv_iload_n hx hb dL_potential_4 rfl (lv_at hl 1 rfl) ?_
  refine lv_lload_n hx hb dL_potential_5 rfl (lv_at hl 2 rfl) ?_
  refine x_caught (A := A) (x_run (As := [.int v0, .long w]) (rest := [.int 0, .ref o]) (ci := 9) (q0 := 0) ⟨hx, hb, hml, hown, hts⟩ (t_potential l D E sa hl9 a p_tape p_graph p_reader p_ahead p_back p_trail p_landmarks p_hierarchy p_route p_scratch p_toldRow g_xs g_ys g_potentials g_tails g_heads g_weights g_net v0 w) b_1099 b_1100 b_1101 b_78 b_1102 ⟨rfl, hd_X9_potential⟩ ⟨⟨by decide, by decide⟩, by decide, by decide⟩ hK hP (hZ.narrow hA) [0, 1] rfl rfl rfl rfl hl.1 (Nat.le_of_ble_eq_true rfl) dL_potential_6) hown htab (by decide) (by decide) hts b_973 hZ.2.2.2.2.1 hP hA (fun q9 H locs hP hS => ?_)
  refine lv_astore (lv' := [(5, .ref q9), (0, .ref a), (1, .int v0), (2, .long w), (4, .ref o)]) hx hb dL_potential_13 hl (by decide) rfl (fun ls hl => ?_)
  refine lv_iconst (v := 1) hx hb dL_potential_15 (by decide) ?_
  exact m_i () hx hb hr hlocks rfl trivial (hP.sub [2] rfl) (hD.sub [2] (by decide) rfl) hS (by decide) (by decide) dL_potential_16
set_option maxRecDepth 20000 in
set_option maxHeartbeats 2000000 in
theorem h_straight (l : Launch) (D : va_G) (E : Nat → ClassId) (sa : Nat → Nat) (hl9 : l.stackTraces = false) (a : Nat) (p_tape : Nat) (p_graph : Nat) (p_reader : Nat) (p_ahead : Nat) (p_back : Nat) (p_trail : Nat) (p_landmarks : Nat) (p_hierarchy : Nat) (p_route : Nat) (p_scratch : Nat) (p_toldRow : Nat) (g_xs : Nat) (g_ys : Nat) (g_potentials : Nat) (g_tails : Nat) (g_heads : Nat) (g_weights : Nat) (g_net : Nat) (v0 : Int32) (v1 : Int32) (o : Nat) (fo : Nat → Int64) : KM l yL_straight (.codeWith yL_straight cL_straight 5 (some .int) [(0, 10, 13, 29), (0, 10, 17, 19)]) 51 1667 1 6 D E sa [.ref a, .int v0, .int v1, .ref o] [(a, .inr (9, [.ref p_tape, .ref p_graph, .ref p_reader, .ref p_ahead, .ref p_back, .ref p_trail, .ref p_landmarks, .ref p_hierarchy, .ref p_route, .ref p_scratch, .ref p_toldRow, .int 0, .int 0])), (p_graph, .inr (0, [.ref g_xs, .ref g_ys, .ref g_potentials, .ref g_tails, .ref g_heads, .ref g_weights, .ref g_net, .int 0, .int 0, .long 0])), (o, .inl (E 1, 1, .inr (.inl fo)))] (S := Unit) (fun _ => some (.int 1)) (fun _ => True) (fun _ => [(o, .inl (E 1, 1, .inr (.inl fo)))]) := by
  refine KM.ofH (by decide) (Nat.le_of_ble_eq_true rfl) ?_
  intro p e s m below meth c A ls hx hb hr hts hml hown hlocks htab hK hP hD hA hS hZ hl
  have hown : s.vm.findClass RL = some m.cls := hown
  have hl : lv_has ls 5 [(0, .ref a), (1, .int v0), (2, .int v1), (3, .ref o)] := hl
  refine lv_aload_n hx hb dL_straight_0 rfl (lv_at hl 3 rfl) ?_
  refine lv_iconst (v := 0) hx hb dL_straight_1 (by decide) ?_
  refine lv_aload_n hx hb dL_straight_2 rfl (lv_at hl 0 rfl) ?_
  refine lv_iload_n hx hb dL_straight_3 rfl (lv_at hl 1 rfl) ?_
  refine lv_iload_n hx hb dL_straight_4 rfl (lv_at hl 2 rfl) ?_
  refine x_caught (A := A) (x_run (As := [.int v0, .int v1]) (rest := [.int 0, .ref o]) (ci := 9) (q0 := 0) ⟨hx, hb, hml, hown, hts⟩ (t_straight l D E sa hl9 a p_tape p_graph p_reader p_ahead p_back p_trail p_landmarks p_hierarchy p_route p_scratch p_toldRow g_xs g_ys g_potentials g_tails g_heads g_weights g_net v0 v1) b_1112 b_1113 b_1114 b_78 b_1115 ⟨rfl, hd_X9_straight⟩ ⟨⟨by decide, by decide⟩, by decide, by decide⟩ hK hP (hZ.narrow hA) [0, 1] rfl rfl rfl rfl hl.1 (Nat.le_of_ble_eq_true rfl) dL_straight_5) hown htab (by decide) (by decide) hts b_973 hZ.2.2.2.2.1 hP hA (fun q9 H locs hP hS => ?_)
  refine lv_astore (lv' := [(4, .ref q9), (0, .ref a), (1, .int v0), (2, .int v1), (3, .ref o)]) hx hb dL_straight_13 hl (by decide) rfl (fun ls hl => ?_)
  refine lv_iconst (v := 1) hx hb dL_straight_15 (by decide) ?_
  exact m_i () hx hb hr hlocks rfl trivial (hP.sub [2] rfl) (hD.sub [2] (by decide) rfl) hS (by decide) (by decide) dL_straight_16
set_option maxRecDepth 20000 in
set_option maxHeartbeats 2000000 in
theorem h_landmark (l : Launch) (D : va_G) (E : Nat → ClassId) (sa : Nat → Nat) (hl9 : l.stackTraces = false) (a : Nat) (p_tape : Nat) (p_graph : Nat) (p_reader : Nat) (p_ahead : Nat) (p_back : Nat) (p_trail : Nat) (p_landmarks : Nat) (p_hierarchy : Nat) (p_route : Nat) (p_scratch : Nat) (p_toldRow : Nat) (g_xs : Nat) (g_ys : Nat) (g_potentials : Nat) (g_tails : Nat) (g_heads : Nat) (g_weights : Nat) (g_net : Nat) (v0 : Int32) (o : Nat) (fo : Nat → Int64) : KM l yL_landmark (.codeWith yL_landmark cL_landmark 4 (some .int) [(0, 9, 12, 29), (0, 9, 15, 19), (0, 9, 18, 13)]) 51 1663 1 6 D E sa [.ref a, .int v0, .ref o] [(a, .inr (9, [.ref p_tape, .ref p_graph, .ref p_reader, .ref p_ahead, .ref p_back, .ref p_trail, .ref p_landmarks, .ref p_hierarchy, .ref p_route, .ref p_scratch, .ref p_toldRow, .int 0, .int 0])), (p_graph, .inr (0, [.ref g_xs, .ref g_ys, .ref g_potentials, .ref g_tails, .ref g_heads, .ref g_weights, .ref g_net, .int 0, .int 0, .long 0])), (o, .inl (E 1, 1, .inr (.inl fo)))] (S := Unit) (fun _ => some (.int 1)) (fun _ => True) (fun _ => [(o, .inl (E 1, 1, .inr (.inl fo)))]) := by
  refine KM.ofH (by decide) (Nat.le_of_ble_eq_true rfl) ?_
  intro p e s m below meth c A ls hx hb hr hts hml hown hlocks htab hK hP hD hA hS hZ hl
  have hown : s.vm.findClass RL = some m.cls := hown
  have hl : lv_has ls 4 [(0, .ref a), (1, .int v0), (2, .ref o)] := hl
  refine lv_aload_n hx hb dL_landmark_0 rfl (lv_at hl 2 rfl) ?_
  refine lv_iconst (v := 0) hx hb dL_landmark_1 (by decide) ?_
  refine lv_aload_n hx hb dL_landmark_2 rfl (lv_at hl 0 rfl) ?_
  refine lv_iload_n hx hb dL_landmark_3 rfl (lv_at hl 1 rfl) ?_
  refine x_caught (A := A) (x_run (As := [.int v0]) (rest := [.int 0, .ref o]) (ci := 9) (q0 := 0) ⟨hx, hb, hml, hown, hts⟩ (t_landmark l D E sa hl9 a p_tape p_graph p_reader p_ahead p_back p_trail p_landmarks p_hierarchy p_route p_scratch p_toldRow g_xs g_ys g_potentials g_tails g_heads g_weights g_net v0) b_1130 b_1131 b_1132 b_78 b_1133 ⟨rfl, hd_X9_landmark⟩ ⟨⟨by decide, by decide⟩, by decide, by decide⟩ hK hP (hZ.narrow hA) [0, 1] rfl rfl rfl rfl hl.1 (Nat.le_of_ble_eq_true rfl) dL_landmark_4) hown htab (by decide) (by decide) hts b_973 hZ.2.2.2.2.1 hP hA (fun q9 H locs hP hS => ?_)
  refine lv_astore_n (lv' := [(3, .ref q9), (0, .ref a), (1, .int v0), (2, .ref o)]) hx hb dL_landmark_12 rfl hl (by decide) rfl (fun ls hl => ?_)
  refine lv_iconst (v := 1) hx hb dL_landmark_13 (by decide) ?_
  exact m_i () hx hb hr hlocks rfl trivial (hP.sub [2] rfl) (hD.sub [2] (by decide) rfl) hS (by decide) (by decide) dL_landmark_14
set_option maxRecDepth 20000 in
set_option maxHeartbeats 2000000 in
theorem h_order (l : Launch) (D : va_G) (E : Nat → ClassId) (sa : Nat → Nat) (hl9 : l.stackTraces = false) (a : Nat) (p_tape : Nat) (p_graph : Nat) (p_reader : Nat) (p_ahead : Nat) (p_back : Nat) (p_trail : Nat) (p_landmarks : Nat) (p_hierarchy : Nat) (p_route : Nat) (p_scratch : Nat) (p_toldRow : Nat) (g_xs : Nat) (g_ys : Nat) (g_potentials : Nat) (g_tails : Nat) (g_heads : Nat) (g_weights : Nat) (g_net : Nat) (v0 : Int32) (o : Nat) (fo : Nat → Int64) : KM l yL_order (.codeWith yL_order cL_order 4 (some .int) [(0, 9, 12, 29), (0, 9, 15, 19)]) 51 1663 1 6 D E sa [.ref a, .int v0, .ref o] [(a, .inr (9, [.ref p_tape, .ref p_graph, .ref p_reader, .ref p_ahead, .ref p_back, .ref p_trail, .ref p_landmarks, .ref p_hierarchy, .ref p_route, .ref p_scratch, .ref p_toldRow, .int 0, .int 0])), (p_graph, .inr (0, [.ref g_xs, .ref g_ys, .ref g_potentials, .ref g_tails, .ref g_heads, .ref g_weights, .ref g_net, .int 0, .int 0, .long 0])), (o, .inl (E 1, 1, .inr (.inl fo)))] (S := Unit) (fun _ => some (.int 1)) (fun _ => True) (fun _ => [(o, .inl (E 1, 1, .inr (.inl fo)))]) := by
  refine KM.ofH (by decide) (Nat.le_of_ble_eq_true rfl) ?_
  intro p e s m below meth c A ls hx hb hr hts hml hown hlocks htab hK hP hD hA hS hZ hl
  have hown : s.vm.findClass RL = some m.cls := hown
  have hl : lv_has ls 4 [(0, .ref a), (1, .int v0), (2, .ref o)] := hl
  refine lv_aload_n hx hb dL_order_0 rfl (lv_at hl 2 rfl) ?_
  refine lv_iconst (v := 0) hx hb dL_order_1 (by decide) ?_
  refine lv_aload_n hx hb dL_order_2 rfl (lv_at hl 0 rfl) ?_
  refine lv_iload_n hx hb dL_order_3 rfl (lv_at hl 1 rfl) ?_
  refine x_caught (A := A) (x_run (As := [.int v0]) (rest := [.int 0, .ref o]) (ci := 9) (q0 := 0) ⟨hx, hb, hml, hown, hts⟩ (t_order l D E sa hl9 a p_tape p_graph p_reader p_ahead p_back p_trail p_landmarks p_hierarchy p_route p_scratch p_toldRow g_xs g_ys g_potentials g_tails g_heads g_weights g_net v0) b_1231 b_1232 b_1233 b_78 b_1234 ⟨rfl, hd_X9_order⟩ ⟨⟨by decide, by decide⟩, by decide, by decide⟩ hK hP (hZ.narrow hA) [0, 1] rfl rfl rfl rfl hl.1 (Nat.le_of_ble_eq_true rfl) dL_order_4) hown htab (by decide) (by decide) hts b_973 hZ.2.2.2.2.1 hP hA (fun q9 H locs hP hS => ?_)
  refine lv_astore_n (lv' := [(3, .ref q9), (0, .ref a), (1, .int v0), (2, .ref o)]) hx hb dL_order_12 rfl hl (by decide) rfl (fun ls hl => ?_)
  refine lv_iconst (v := 1) hx hb dL_order_13 (by decide) ?_
  exact m_i () hx hb hr hlocks rfl trivial (hP.sub [2] rfl) (hD.sub [2] (by decide) rfl) hS (by decide) (by decide) dL_order_14
set_option maxRecDepth 20000 in
set_option maxHeartbeats 2000000 in
theorem h_query (l : Launch) (D : va_G) (E : Nat → ClassId) (sa : Nat → Nat) (hl9 : l.stackTraces = false) (a : Nat) (p_tape : Nat) (p_graph : Nat) (p_reader : Nat) (p_ahead : Nat) (p_back : Nat) (p_trail : Nat) (p_landmarks : Nat) (p_hierarchy : Nat) (p_route : Nat) (p_scratch : Nat) (p_toldRow : Nat) (g_xs : Nat) (g_ys : Nat) (g_potentials : Nat) (g_tails : Nat) (g_heads : Nat) (g_weights : Nat) (g_net : Nat) (v0 : Int32) (v1 : Int32) (o : Nat) (fo : Nat → Int64) : KM l yL_query (.codeWith yL_query cL_query 5 (some .int) [(0, 10, 13, 29), (0, 10, 17, 13)]) 51 1664 1 6 D E sa [.ref a, .int v0, .int v1, .ref o] [(a, .inr (9, [.ref p_tape, .ref p_graph, .ref p_reader, .ref p_ahead, .ref p_back, .ref p_trail, .ref p_landmarks, .ref p_hierarchy, .ref p_route, .ref p_scratch, .ref p_toldRow, .int 0, .int 0])), (p_graph, .inr (0, [.ref g_xs, .ref g_ys, .ref g_potentials, .ref g_tails, .ref g_heads, .ref g_weights, .ref g_net, .int 0, .int 0, .long 0])), (o, .inl (E 1, 1, .inr (.inl fo)))] (S := Unit) (fun _ => some (.int 1)) (fun _ => True) (fun _ => [(o, .inl (E 1, 1, .inr (.inl fo)))]) := by
  refine KM.ofH (by decide) (Nat.le_of_ble_eq_true rfl) ?_
  intro p e s m below meth c A ls hx hb hr hts hml hown hlocks htab hK hP hD hA hS hZ hl
  have hown : s.vm.findClass RL = some m.cls := hown
  have hl : lv_has ls 5 [(0, .ref a), (1, .int v0), (2, .int v1), (3, .ref o)] := hl
  refine lv_aload_n hx hb dL_query_0 rfl (lv_at hl 3 rfl) ?_
  refine lv_iconst (v := 0) hx hb dL_query_1 (by decide) ?_
  refine lv_aload_n hx hb dL_query_2 rfl (lv_at hl 0 rfl) ?_
  refine lv_iload_n hx hb dL_query_3 rfl (lv_at hl 1 rfl) ?_
  refine lv_iload_n hx hb dL_query_4 rfl (lv_at hl 2 rfl) ?_
  refine x_caught (A := A) (x_run (As := [.int v0, .int v1]) (rest := [.int 0, .ref o]) (ci := 9) (q0 := 0) ⟨hx, hb, hml, hown, hts⟩ (t_query l D E sa hl9 a p_tape p_graph p_reader p_ahead p_back p_trail p_landmarks p_hierarchy p_route p_scratch p_toldRow g_xs g_ys g_potentials g_tails g_heads g_weights g_net v0 v1) b_1254 b_1255 b_1256 b_78 b_1257 ⟨rfl, hd_X9_query⟩ ⟨⟨by decide, by decide⟩, by decide, by decide⟩ hK hP (hZ.narrow hA) [0, 1] rfl rfl rfl rfl hl.1 (Nat.le_of_ble_eq_true rfl) dL_query_5) hown htab (by decide) (by decide) hts b_973 hZ.2.2.2.2.1 hP hA (fun q9 H locs hP hS => ?_)
  refine lv_astore (lv' := [(4, .ref q9), (0, .ref a), (1, .int v0), (2, .int v1), (3, .ref o)]) hx hb dL_query_13 hl (by decide) rfl (fun ls hl => ?_)
  refine lv_iconst (v := 1) hx hb dL_query_15 (by decide) ?_
  exact m_i () hx hb hr hlocks rfl trivial (hP.sub [2] rfl) (hD.sub [2] (by decide) rfl) hS (by decide) (by decide) dL_query_16
set_option maxRecDepth 20000 in
set_option maxHeartbeats 2000000 in
theorem h_prepare (l : Launch) (D : va_G) (E : Nat → ClassId) (sa : Nat → Nat) (a : Nat) (p_tape : Nat) (p_graph : Nat) (p_reader : Nat) (p_ahead : Nat) (p_back : Nat) (p_trail : Nat) (p_landmarks : Nat) (p_hierarchy : Nat) (p_route : Nat) (p_scratch : Nat) (p_toldRow : Nat) (g_xs : Nat) (g_ys : Nat) (g_potentials : Nat) (g_tails : Nat) (g_heads : Nat) (g_weights : Nat) (g_net : Nat) (o_relaxedFrom : Nat) (o_relaxedTo : Nat) (o_walk : Nat) (o_upLengths : Nat) (o_upCounts : Nat) (o_downLengths : Nat) (o_downCounts : Nat) (o_chain : Nat) (h_net : Nat) (h_ranks : Nat) (h_row : Nat) (h_witnesses : Nat) (h_contractedBeside : Nat) (h_wantedFrom : Nat) (h_wantedTo : Nat) (k_lengths : Nat) (k_counts : Nat) (k_overs : Nat) (k_arcNumbers : Nat) (k_left : Nat) (n_lengths : Nat) (n_counts : Nat) (n_overs : Nat) (n_arcNumbers : Nat) (n_left : Nat) (o : Nat) (fo : Nat → Int64) : KM l yL_prepare (.codeWith yL_prepare cL_prepare 3 (some .int) [(0, 8, 11, 62)]) 77 2504 0 0 D E sa [.ref a, .ref o] [(a, .inr (9, [.ref p_tape, .ref p_graph, .ref p_reader, .ref p_ahead, .ref p_back, .ref p_trail, .ref p_landmarks, .ref p_hierarchy, .ref p_route, .ref p_scratch, .ref p_toldRow, .int 0, .int 0])), (p_graph, .inr (0, [.ref g_xs, .ref g_ys, .ref g_potentials, .ref g_tails, .ref g_heads, .ref g_weights, .ref g_net, .int 0, .int 0, .long 0])), (p_route, .inr (5, [.ref o_relaxedFrom, .ref o_relaxedTo, .ref o_walk, .int 0, .int 0, .int 0, .int 0, .int 0, .int 0, .int 0, .int (-1), .long 0, .ref o_upLengths, .ref o_upCounts, .ref o_downLengths, .ref o_downCounts, .ref o_chain])), (p_hierarchy, .inr (1, [.ref h_net, .ref h_ranks, .ref h_row, .int 0, .int 0, .int 0, .int 4, .int 2, .int 1, .ref h_witnesses, .ref h_contractedBeside, .ref h_wantedFrom, .ref h_wantedTo, .int 0])), (h_contractedBeside, .inl (E 0, 24, .inl (fun _ => 0))), (h_net, .inr (3, [.ref k_lengths, .ref k_counts, .ref k_overs, .ref k_arcNumbers, .ref k_left, .int 0])), (k_lengths, .inl (E 1, 576, .inr (.inl (fun _ => 0)))), (k_counts, .inl (E 0, 576, .inl (fun _ => 0))), (k_overs, .inl (E 0, 576, .inl (fun _ => 0))), (k_arcNumbers, .inl (E 0, 576, .inl (fun _ => 0))), (k_left, .inl (E 3, 24, .inl (fun _ => 0))), (g_net, .inr (3, [.ref n_lengths, .ref n_counts, .ref n_overs, .ref n_arcNumbers, .ref n_left, .int 0])), (n_lengths, .inl (E 1, 576, .inr (.inl (fun _ => 0)))), (n_counts, .inl (E 0, 576, .inl (fun _ => 0))), (n_overs, .inl (E 0, 576, .inl (fun _ => 0))), (n_arcNumbers, .inl (E 0, 576, .inl (fun _ => 0))), (o, .inl (E 1, 1, .inr (.inl fo)))] (S := Unit) (fun _ => some (.int 0)) (fun _ => True) (fun _ => [(o, .inl (E 1, 1, .inr (.inl (vp_updL fo (0 : Int32).toNatClampNeg 0))))]) := by
  refine KM.ofH (by decide) (Nat.le_of_ble_eq_true rfl) ?_
  intro p e s m below meth c A ls hx hb hr hts hml hown hlocks htab hK hP hD hA hS hZ hl
  have hown : s.vm.findClass RL = some m.cls := hown
  have hl : lv_has ls 3 [(0, .ref a), (1, .ref o)] := hl
  refine lv_aload_n hx hb dL_prepare_0 rfl (lv_at hl 1 rfl) ?_
  refine lv_iconst (v := 0) hx hb dL_prepare_1 (by decide) ?_
  refine lv_aload_n hx hb dL_prepare_2 rfl (lv_at hl 0 rfl) ?_
  refine k_MV (As := []) (rest := [.int 0, .ref o]) (ci := 9) (q0 := 0) (wr := [(o, .inl (E 1, 1, .inr (.inl fo)))]) ⟨hx, hb, hml, hown, hts⟩ (c_prepare l D E sa a p_tape p_graph p_reader p_ahead p_back p_trail p_landmarks p_hierarchy p_route p_scratch p_toldRow g_xs g_ys g_potentials g_tails g_heads g_weights g_net o_relaxedFrom o_relaxedTo o_walk o_upLengths o_upCounts o_downLengths o_downCounts o_chain h_net h_ranks h_row h_witnesses h_contractedBeside h_wantedFrom h_wantedTo k_lengths k_counts k_overs k_arcNumbers k_left n_lengths n_counts n_overs n_arcNumbers n_left) b_1143 b_1144 b_1145 b_78 b_1146 ⟨rfl, hd_X9_prepare⟩ ⟨⟨by decide, by decide⟩, by decide, by decide⟩ hK hP hD hS hA hZ [0, 1, 2, 3, 4, 5, 6, 7, 8, 9, 10, 11, 12, 13, 14, 15] [16] rfl rfl (by decide) rfl rfl rfl hl.1 (Nat.le_of_ble_eq_true rfl) dL_prepare_3 (fun u_1 H locs hu hP hD hS _ => ?_)
  have hP : va_P D k_cl [(o, .inl (E 1, 1, .inr (.inl fo)))] H := hP
  have hD : va_D A [(o, .inl (E 1, 1, .inr (.inl fo)))] := hD
  refine W.eq (g2 := F0 m 6 ls [.int 0, .int 0, .ref o]) rfl ?_
  refine lv_i2l (v := 0) hx hb dL_prepare_6 (by decide) ?_
  refine va_last hx hb hK hP hD hS 0 1 rfl rfl (by unfold vp_in; decide) dL_prepare_7 (fun H locs hP hD hS => ?_)
  have hP : va_P D k_cl [(o, .inl (E 1, 1, .inr (.inl (vp_updL fo (0 : Int32).toNatClampNeg 0))))] H := hP
  have hD : va_D A [(o, .inl (E 1, 1, .inr (.inl (vp_updL fo (0 : Int32).toNatClampNeg 0))))] := hD
  refine lv_goto (tgt := 14) hx hb dL_prepare_8 (by decide) ?_
  refine lv_iconst (v := 0) hx hb dL_prepare_14 (by decide) ?_
  exact m_i () hx hb hr hlocks rfl trivial (hP.sub [0] rfl) (hD.sub [0] (by decide) rfl) hS (by decide) (by decide) dL_prepare_15
set_option maxRecDepth 20000 in
set_option maxHeartbeats 2000000 in
theorem h_prepareTold (l : Launch) (D : va_G) (E : Nat → ClassId) (sa : Nat → Nat) (a : Nat) (p_tape : Nat) (p_graph : Nat) (p_reader : Nat) (p_ahead : Nat) (p_back : Nat) (p_trail : Nat) (p_landmarks : Nat) (p_hierarchy : Nat) (p_route : Nat) (p_scratch : Nat) (p_toldRow : Nat) (g_xs : Nat) (g_ys : Nat) (g_potentials : Nat) (g_tails : Nat) (g_heads : Nat) (g_weights : Nat) (g_net : Nat) (o_relaxedFrom : Nat) (o_relaxedTo : Nat) (o_walk : Nat) (o_upLengths : Nat) (o_upCounts : Nat) (o_downLengths : Nat) (o_downCounts : Nat) (o_chain : Nat) (h_net : Nat) (h_ranks : Nat) (h_row : Nat) (h_witnesses : Nat) (h_contractedBeside : Nat) (h_wantedFrom : Nat) (h_wantedTo : Nat) (k_lengths : Nat) (k_counts : Nat) (k_overs : Nat) (k_arcNumbers : Nat) (k_left : Nat) (n_lengths : Nat) (n_counts : Nat) (n_overs : Nat) (n_arcNumbers : Nat) (n_left : Nat) (o : Nat) (fo : Nat → Int64) : KM l yL_prepareTold (.codeWith yL_prepareTold cL_prepareTold 3 (some .int) [(0, 8, 11, 13), (0, 8, 14, 62)]) 77 2504 0 0 D E sa [.ref a, .ref o] [(a, .inr (9, [.ref p_tape, .ref p_graph, .ref p_reader, .ref p_ahead, .ref p_back, .ref p_trail, .ref p_landmarks, .ref p_hierarchy, .ref p_route, .ref p_scratch, .ref p_toldRow, .int 0, .int 0])), (p_graph, .inr (0, [.ref g_xs, .ref g_ys, .ref g_potentials, .ref g_tails, .ref g_heads, .ref g_weights, .ref g_net, .int 0, .int 0, .long 0])), (p_route, .inr (5, [.ref o_relaxedFrom, .ref o_relaxedTo, .ref o_walk, .int 0, .int 0, .int 0, .int 0, .int 0, .int 0, .int 0, .int (-1), .long 0, .ref o_upLengths, .ref o_upCounts, .ref o_downLengths, .ref o_downCounts, .ref o_chain])), (p_hierarchy, .inr (1, [.ref h_net, .ref h_ranks, .ref h_row, .int 0, .int 0, .int 0, .int 4, .int 2, .int 1, .ref h_witnesses, .ref h_contractedBeside, .ref h_wantedFrom, .ref h_wantedTo, .int 0])), (h_contractedBeside, .inl (E 0, 24, .inl (fun _ => 0))), (h_net, .inr (3, [.ref k_lengths, .ref k_counts, .ref k_overs, .ref k_arcNumbers, .ref k_left, .int 0])), (k_lengths, .inl (E 1, 576, .inr (.inl (fun _ => 0)))), (k_counts, .inl (E 0, 576, .inl (fun _ => 0))), (k_overs, .inl (E 0, 576, .inl (fun _ => 0))), (k_arcNumbers, .inl (E 0, 576, .inl (fun _ => 0))), (k_left, .inl (E 3, 24, .inl (fun _ => 0))), (g_net, .inr (3, [.ref n_lengths, .ref n_counts, .ref n_overs, .ref n_arcNumbers, .ref n_left, .int 0])), (n_lengths, .inl (E 1, 576, .inr (.inl (fun _ => 0)))), (n_counts, .inl (E 0, 576, .inl (fun _ => 0))), (n_overs, .inl (E 0, 576, .inl (fun _ => 0))), (n_arcNumbers, .inl (E 0, 576, .inl (fun _ => 0))), (o, .inl (E 1, 1, .inr (.inl fo)))] (S := Unit) (fun _ => some (.int 0)) (fun _ => True) (fun _ => [(o, .inl (E 1, 1, .inr (.inl (vp_updL fo (0 : Int32).toNatClampNeg 0))))]) := by
  refine KM.ofH (by decide) (Nat.le_of_ble_eq_true rfl) ?_
  intro p e s m below meth c A ls hx hb hr hts hml hown hlocks htab hK hP hD hA hS hZ hl
  have hown : s.vm.findClass RL = some m.cls := hown
  have hl : lv_has ls 3 [(0, .ref a), (1, .ref o)] := hl
  refine lv_aload_n hx hb dL_prepareTold_0 rfl (lv_at hl 1 rfl) ?_
  refine lv_iconst (v := 0) hx hb dL_prepareTold_1 (by decide) ?_
  refine lv_aload_n hx hb dL_prepareTold_2 rfl (lv_at hl 0 rfl) ?_
  refine k_MV (As := []) (rest := [.int 0, .ref o]) (ci := 9) (q0 := 0) (wr := [(o, .inl (E 1, 1, .inr (.inl fo)))]) ⟨hx, hb, hml, hown, hts⟩ (c_prepareTold l D E sa a p_tape p_graph p_reader p_ahead p_back p_trail p_landmarks p_hierarchy p_route p_scratch p_toldRow g_xs g_ys g_potentials g_tails g_heads g_weights g_net o_relaxedFrom o_relaxedTo o_walk o_upLengths o_upCounts o_downLengths o_downCounts o_chain h_net h_ranks h_row h_witnesses h_contractedBeside h_wantedFrom h_wantedTo k_lengths k_counts k_overs k_arcNumbers k_left n_lengths n_counts n_overs n_arcNumbers n_left) b_1239 b_1240 b_1241 b_78 b_1242 ⟨rfl, hd_X9_prepareTold⟩ ⟨⟨by decide, by decide⟩, by decide, by decide⟩ hK hP hD hS hA hZ [0, 1, 2, 3, 4, 5, 6, 7, 8, 9, 10, 11, 12, 13, 14, 15] [16] rfl rfl (by decide) rfl rfl rfl hl.1 (Nat.le_of_ble_eq_true rfl) dL_prepareTold_3 (fun u_1 H locs hu hP hD hS _ => ?_)
  have hP : va_P D k_cl [(o, .inl (E 1, 1, .inr (.inl fo)))] H := hP
  have hD : va_D A [(o, .inl (E 1, 1, .inr (.inl fo)))] := hD
  refine W.eq (g2 := F0 m 6 ls [.int 0, .int 0, .ref o]) rfl ?_
  refine lv_i2l (v := 0) hx hb dL_prepareTold_6 (by decide) ?_
  refine va_last hx hb hK hP hD hS 0 1 rfl rfl (by unfold vp_in; decide) dL_prepareTold_7 (fun H locs hP hD hS => ?_)
  have hP : va_P D k_cl [(o, .inl (E 1, 1, .inr (.inl (vp_updL fo (0 : Int32).toNatClampNeg 0))))] H := hP
  have hD : va_D A [(o, .inl (E 1, 1, .inr (.inl (vp_updL fo (0 : Int32).toNatClampNeg 0))))] := hD
  refine lv_goto (tgt := 17) hx hb dL_prepareTold_8 (by decide) ?_
  refine lv_iconst (v := 0) hx hb dL_prepareTold_17 (by decide) ?_
  exact m_i () hx hb hr hlocks rfl trivial (hP.sub [0] rfl) (hD.sub [0] (by decide) rfl) hS (by decide) (by decide) dL_prepareTold_18
set_option maxRecDepth 20000 in
set_option maxHeartbeats 2000000 in
theorem h_remake (l : Launch) (D : va_G) (E : Nat → ClassId) (sa : Nat → Nat) (a : Nat) (p_tape : Nat) (p_graph : Nat) (p_reader : Nat) (p_ahead : Nat) (p_back : Nat) (p_trail : Nat) (p_landmarks : Nat) (p_hierarchy : Nat) (p_route : Nat) (p_scratch : Nat) (p_toldRow : Nat) (g_xs : Nat) (g_ys : Nat) (g_potentials : Nat) (g_tails : Nat) (g_heads : Nat) (g_weights : Nat) (g_net : Nat) (o_relaxedFrom : Nat) (o_relaxedTo : Nat) (o_walk : Nat) (o_upLengths : Nat) (o_upCounts : Nat) (o_downLengths : Nat) (o_downCounts : Nat) (o_chain : Nat) (h_net : Nat) (h_ranks : Nat) (h_row : Nat) (h_witnesses : Nat) (h_contractedBeside : Nat) (h_wantedFrom : Nat) (h_wantedTo : Nat) (k_lengths : Nat) (k_counts : Nat) (k_overs : Nat) (k_arcNumbers : Nat) (k_left : Nat) (n_lengths : Nat) (n_counts : Nat) (n_overs : Nat) (n_arcNumbers : Nat) (n_left : Nat) (o : Nat) (fo : Nat → Int64) : KM l yL_remake (.codeWith yL_remake cL_remake 3 (some .int) [(0, 8, 11, 62)]) 77 2505 0 0 D E sa [.ref a, .ref o] [(a, .inr (9, [.ref p_tape, .ref p_graph, .ref p_reader, .ref p_ahead, .ref p_back, .ref p_trail, .ref p_landmarks, .ref p_hierarchy, .ref p_route, .ref p_scratch, .ref p_toldRow, .int 0, .int 0])), (p_graph, .inr (0, [.ref g_xs, .ref g_ys, .ref g_potentials, .ref g_tails, .ref g_heads, .ref g_weights, .ref g_net, .int 0, .int 0, .long 0])), (p_route, .inr (5, [.ref o_relaxedFrom, .ref o_relaxedTo, .ref o_walk, .int 0, .int 0, .int 0, .int 0, .int 0, .int 0, .int 0, .int (-1), .long 0, .ref o_upLengths, .ref o_upCounts, .ref o_downLengths, .ref o_downCounts, .ref o_chain])), (p_hierarchy, .inr (1, [.ref h_net, .ref h_ranks, .ref h_row, .int 0, .int 0, .int 0, .int 4, .int 2, .int 1, .ref h_witnesses, .ref h_contractedBeside, .ref h_wantedFrom, .ref h_wantedTo, .int 0])), (h_contractedBeside, .inl (E 0, 24, .inl (fun _ => 0))), (h_net, .inr (3, [.ref k_lengths, .ref k_counts, .ref k_overs, .ref k_arcNumbers, .ref k_left, .int 0])), (k_lengths, .inl (E 1, 576, .inr (.inl (fun _ => 0)))), (k_counts, .inl (E 0, 576, .inl (fun _ => 0))), (k_overs, .inl (E 0, 576, .inl (fun _ => 0))), (k_arcNumbers, .inl (E 0, 576, .inl (fun _ => 0))), (k_left, .inl (E 3, 24, .inl (fun _ => 0))), (g_net, .inr (3, [.ref n_lengths, .ref n_counts, .ref n_overs, .ref n_arcNumbers, .ref n_left, .int 0])), (n_lengths, .inl (E 1, 576, .inr (.inl (fun _ => 0)))), (n_counts, .inl (E 0, 576, .inl (fun _ => 0))), (n_overs, .inl (E 0, 576, .inl (fun _ => 0))), (n_arcNumbers, .inl (E 0, 576, .inl (fun _ => 0))), (o, .inl (E 1, 1, .inr (.inl fo)))] (S := Unit) (fun _ => some (.int 0)) (fun _ => True) (fun _ => [(o, .inl (E 1, 1, .inr (.inl (vp_updL fo (0 : Int32).toNatClampNeg 0))))]) := by
  refine KM.ofH (by decide) (Nat.le_of_ble_eq_true rfl) ?_
  intro p e s m below meth c A ls hx hb hr hts hml hown hlocks htab hK hP hD hA hS hZ hl
  have hown : s.vm.findClass RL = some m.cls := hown
  have hl : lv_has ls 3 [(0, .ref a), (1, .ref o)] := hl
  refine lv_aload_n hx hb dL_remake_0 rfl (lv_at hl 1 rfl) ?_
  refine lv_iconst (v := 0) hx hb dL_remake_1 (by decide) ?_
  refine lv_aload_n hx hb dL_remake_2 rfl (lv_at hl 0 rfl) ?_
  refine k_MV (As := []) (rest := [.int 0, .ref o]) (ci := 9) (q0 := 0) (wr := [(o, .inl (E 1, 1, .inr (.inl fo)))]) ⟨hx, hb, hml, hown, hts⟩ (c_remake l D E sa a p_tape p_graph p_reader p_ahead p_back p_trail p_landmarks p_hierarchy p_route p_scratch p_toldRow g_xs g_ys g_potentials g_tails g_heads g_weights g_net o_relaxedFrom o_relaxedTo o_walk o_upLengths o_upCounts o_downLengths o_downCounts o_chain h_net h_ranks h_row h_witnesses h_contractedBeside h_wantedFrom h_wantedTo k_lengths k_counts k_overs k_arcNumbers k_left n_lengths n_counts n_overs n_arcNumbers n_left) b_1247 b_1248 b_1249 b_78 b_1250 ⟨rfl, hd_X9_remake⟩ ⟨⟨by decide, by decide⟩, by decide, by decide⟩ hK hP hD hS hA hZ [0, 1, 2, 3, 4, 5, 6, 7, 8, 9, 10, 11, 12, 13, 14, 15] [16] rfl rfl (by decide) rfl rfl rfl hl.1 (Nat.le_of_ble_eq_true rfl) dL_remake_3 (fun u_1 H locs hu hP hD hS _ => ?_)
  have hP : va_P D k_cl [(o, .inl (E 1, 1, .inr (.inl fo)))] H := hP
  have hD : va_D A [(o, .inl (E 1, 1, .inr (.inl fo)))] := hD
  refine W.eq (g2 := F0 m 6 ls [.int 0, .int 0, .ref o]) rfl ?_
  refine lv_i2l (v := 0) hx hb dL_remake_6 (by decide) ?_
  refine va_last hx hb hK hP hD hS 0 1 rfl rfl (by unfold vp_in; decide) dL_remake_7 (fun H locs hP hD hS => ?_)
  have hP : va_P D k_cl [(o, .inl (E 1, 1, .inr (.inl (vp_updL fo (0 : Int32).toNatClampNeg 0))))] H := hP
  have hD : va_D A [(o, .inl (E 1, 1, .inr (.inl (vp_updL fo (0 : Int32).toNatClampNeg 0))))] := hD
  refine lv_goto (tgt := 14) hx hb dL_remake_8 (by decide) ?_
  refine lv_iconst (v := 0) hx hb dL_remake_14 (by decide) ?_
  exact m_i () hx hb hr hlocks rfl trivial (hP.sub [0] rfl) (hD.sub [0] (by decide) rfl) hS (by decide) (by decide) dL_remake_15
