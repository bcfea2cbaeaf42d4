set_option maxRecDepth 20000 in
set_option maxHeartbeats 2000000 in
theorem c_has (l : Launch) (D : va_G) (E : Nat → ClassId) (b : Nat) (r_nodes : Nat) (r_lengths : Nat) (r_counts : Nat) (r_seen : Nat) (v : Int32) : KR l yX7_has cX7_has 2 (some .boolean) 12 400 D E [.ref b, .int v] [(b, .inr (7, [.ref r_nodes, .ref r_lengths, .ref r_counts, .int 0, .ref r_seen]))] (some (.int 0)) := by
  refine KR.of (by decide) (Nat.le_of_ble_eq_true rfl) ?_
  intro p e s m below meth c ls hx hb hr hts hml hown hlocks hK hP hl
  have hown : s.vm.findClass RX7 = some m.cls := hown
  have hl : lv_has ls 2 [(0, .ref b), (1, .int v)] := hl
  refine lv_iload_n hx hb dX7_has_0 rfl (lv_at hl 1 rfl) ?_
  refine lv_if_lt (tgt := 16) hx hb dX7_has_1 (by decide) (fun c1 => ?_) (fun c1 => ?_)
  · refine lv_iconst (v := 0) hx hb dX7_has_16 (by decide) ?_
    exact r_z hx hb hr hlocks rfl rfl dX7_has_17
  · refine lv_iload_n hx hb dX7_has_4 rfl (lv_at hl 1 rfl) ?_
    refine lv_aload_n hx hb dX7_has_5 rfl (lv_at hl 0 rfl) ?_
    refine va_get (D := D) (ci := 7) (v := .int 0) (C := RX7) (T := TX7) (N := 5) hx hb hts inX7 hown hK hP 0 rfl rfl 3 (by decide) (hts _ b_305) (fun _ h9 => h9) rfl dX7_has_6 ?_
    refine lv_icmp_ge (tgt := 16) hx hb dX7_has_9 (by decide) (fun _ => ?_) (fun h9 => absurd (Int32.not_lt.mp c1) h9)
    refine lv_iconst (v := 0) hx hb dX7_has_16 (by decide) ?_
    exact r_z hx hb hr hlocks rfl rfl dX7_has_17
set_option maxRecDepth 20000 in
set_option maxHeartbeats 2000000 in
theorem c_firstInc (l : Launch) (D : va_G) (E : Nat → ClassId) (b : Nat) (z : Nat) (g_xs : Nat) (g_ys : Nat) (g_potentials : Nat) (g_tails : Nat) (g_heads : Nat) (g_weights : Nat) (g_net : Nat) : KR l yX0_firstInconsistent cX0_firstInconsistent 3 (some .int) 12 400 D E [.ref b, .ref z] [(b, .inr (0, [.ref g_xs, .ref g_ys, .ref g_potentials, .ref g_tails, .ref g_heads, .ref g_weights, .ref g_net, .int 0, .int 0, .long 0]))] (some (.int (-1))) := by
  refine KR.of (by decide) (Nat.le_of_ble_eq_true rfl) ?_
  intro p e s m below meth c ls hx hb hr hts hml hown hlocks hK hP hl
  have hown : s.vm.findClass RX0 = some m.cls := hown
  have hl : lv_has ls 3 [(0, .ref b), (1, .ref z)] := hl
  refine lv_iconst (v := 0) hx hb dX0_firstInconsistent_0 (by decide) ?_
  refine lv_istore_n (lv' := [(2, .int 0), (0, .ref b), (1, .ref z)]) hx hb dX0_firstInconsistent_1 rfl hl (by decide) rfl (fun ls hl => ?_)
  refine lv_iload_n hx hb dX0_firstInconsistent_2 rfl (lv_at hl 0 rfl) ?_
  refine lv_aload_n hx hb dX0_firstInconsistent_3 rfl (lv_at hl 1 rfl) ?_
  refine va_get (D := D) (ci := 0) (v := .int 0) (C := RX0) (T := TX0) (N := 10) hx hb hts inX0 hown hK hP 0 rfl rfl 8 (by decide) (hts _ b_198) (fun _ h9 => h9) rfl dX0_firstInconsistent_4 ?_
  refine lv_icmp_ge (tgt := 45) hx hb dX0_firstInconsistent_7 (by decide) (fun _ => ?_) (fun h9 => absurd (by decide) h9)
  refine lv_iconst (v := -1) hx hb dX0_firstInconsistent_45 (by decide) ?_
  exact r_i hx hb hr hlocks rfl dX0_firstInconsistent_46
set_option maxRecDepth 20000 in
set_option maxHeartbeats 2000000 in
theorem c_findWays (l : Launch) (D : va_G) (E : Nat → ClassId) (a : Nat) (p_tape : Nat) (p_graph : Nat) (p_reader : Nat) (p_ahead : Nat) (p_back : Nat) (p_trail : Nat) (p_landmarks : Nat) (p_hierarchy : Nat) (p_route : Nat) (p_scratch : Nat) (p_toldRow : Nat) (g_xs : Nat) (g_ys : Nat) (g_potentials : Nat) (g_tails : Nat) (g_heads : Nat) (g_weights : Nat) (g_net : Nat) (v : Int32) (w : Int32) : KR l yX9_findWays cX9_findWays 3 (some .boolean) 25 821 D E [.ref a, .int v, .int w] [(a, .inr (9, [.ref p_tape, .ref p_graph, .ref p_reader, .ref p_ahead, .ref p_back, .ref p_trail, .ref p_landmarks, .ref p_hierarchy, .ref p_route, .ref p_scratch, .ref p_toldRow, .int 0, .int 0])), (p_graph, .inr (0, [.ref g_xs, .ref g_ys, .ref g_potentials, .ref g_tails, .ref g_heads, .ref g_weights, .ref g_net, .int 0, .int 0, .long 0]))] (some (.int 0)) := by
  refine KR.of (by decide) (Nat.le_of_ble_eq_true rfl) ?_
  intro p e s m below meth c ls hx hb hr hts hml hown hlocks hK hP hl
  have hown : s.vm.findClass RX9 = some m.cls := hown
  have hl : lv_has ls 3 [(0, .ref a), (1, .int v), (2, .int w)] := hl
  refine lv_aload_n hx hb dX9_findWays_0 rfl (lv_at hl 0 rfl) ?_
  refine va_get (D := D) (ci := 9) (v := .ref p_graph) (C := RX9) (T := TX9) (N := 13) hx hb hts inX9 hown hK hP 0 rfl rfl 1 (by decide) (hts _ b_482) (fun _ h9 => h9) rfl dX9_findWays_1 ?_
  refine lv_iload_n hx hb dX9_findWays_4 rfl (lv_at hl 1 rfl) ?_
  refine k_RV (As := [.int v]) (rest := []) (ci := 0) (q0 := 1) ⟨hx, hb, hml, hown, hts⟩ (c_hasNode l D E p_graph g_xs g_ys g_potentials g_tails g_heads g_weights g_net v) b_682 b_683 b_684 b_80 b_685 ⟨rfl, hd_X0_hasNode⟩ ⟨⟨by decide, by decide⟩, by decide, by decide⟩ hK hP [1] rfl rfl rfl rfl hl.1 (Nat.le_of_ble_eq_true rfl) dX9_findWays_5 ?_
  refine lv_if_eq (tgt := 22) hx hb dX9_findWays_8 (by decide) (fun _ => ?_) (fun h9 => absurd (by decide) h9)
  refine lv_iconst (v := 0) hx hb dX9_findWays_22 (by decide) ?_
  exact r_z hx hb hr hlocks rfl rfl dX9_findWays_23
set_option maxRecDepth 20000 in
set_option maxHeartbeats 2000000 in
theorem c_findEdge (l : Launch) (D : va_G) (E : Nat → ClassId) (a : Nat) (p_tape : Nat) (p_graph : Nat) (p_reader : Nat) (p_ahead : Nat) (p_back : Nat) (p_trail : Nat) (p_landmarks : Nat) (p_hierarchy : Nat) (p_route : Nat) (p_scratch : Nat) (p_toldRow : Nat) (h_net : Nat) (h_ranks : Nat) (h_row : Nat) (h_witnesses : Nat) (h_contractedBeside : Nat) (h_wantedFrom : Nat) (h_wantedTo : Nat) (v : Int32) (d : Int32) (i : Int32) : KR l yX9_findEdge cX9_findEdge 4 (some .int) 12 400 D E [.ref a, .int v, .int d, .int i] [(a, .inr (9, [.ref p_tape, .ref p_graph, .ref p_reader, .ref p_ahead, .ref p_back, .ref p_trail, .ref p_landmarks, .ref p_hierarchy, .ref p_route, .ref p_scratch, .ref p_toldRow, .int 0, .int 0])), (p_hierarchy, .inr (1, [.ref h_net, .ref h_ranks, .ref h_row, .int 0, .int 0, .int 0, .int 4, .int 2, .int 1, .ref h_witnesses, .ref h_contractedBeside, .ref h_wantedFrom, .ref h_wantedTo, .int 0]))] (some (.int (-1))) := by
  refine KR.of (by decide) (Nat.le_of_ble_eq_true rfl) ?_
  intro p e s m below meth c ls hx hb hr hts hml hown hlocks hK hP hl
  have hown : s.vm.findClass RX9 = some m.cls := hown
  have hl : lv_has ls 4 [(0, .ref a), (1, .int v), (2, .int d), (3, .int i)] := hl
  refine lv_aload_n hx hb dX9_findEdge_0 rfl (lv_at hl 0 rfl) ?_
  refine va_get (D := D) (ci := 9) (v := .ref p_hierarchy) (C := RX9) (T := TX9) (N := 13) hx hb hts inX9 hown hK hP 0 rfl rfl 7 (by decide) (hts _ b_488) (fun _ h9 => h9) rfl dX9_findEdge_1 ?_
  refine va_get (D := D) (ci := 1) (v := .int 0) (C := RX1) (T := TX1) (N := 14) hx hb hts inX1 hown hK hP 1 rfl rfl 3 (by decide) (hts _ b_365) (fun _ h9 => h9) rfl dX9_findEdge_4 ?_
  refine lv_if_eq (tgt := 38) hx hb dX9_findEdge_7 (by decide) (fun _ => ?_) (fun h9 => absurd (by decide) h9)
  refine lv_iconst (v := -1) hx hb dX9_findEdge_38 (by decide) ?_
  exact r_i hx hb hr hlocks rfl dX9_findEdge_39
set_option maxRecDepth 20000 in
set_option maxHeartbeats 2000000 in
theorem c_place (l : Launch) (D : va_G) (E : Nat → ClassId) (a : Nat) (p_tape : Nat) (p_graph : Nat) (p_reader : Nat) (p_ahead : Nat) (p_back : Nat) (p_trail : Nat) (p_landmarks : Nat) (p_hierarchy : Nat) (p_route : Nat) (p_scratch : Nat) (p_toldRow : Nat) (e_tape : Nat) (e_graph : Nat) : KR l yX9_place cX9_place 1 (some .int) 12 400 D E [.ref a] [(a, .inr (9, [.ref p_tape, .ref p_graph, .ref p_reader, .ref p_ahead, .ref p_back, .ref p_trail, .ref p_landmarks, .ref p_hierarchy, .ref p_route, .ref p_scratch, .ref p_toldRow, .int 0, .int 0])), (p_reader, .inr (4, [.ref e_tape, .ref e_graph, .int 0, .int 0, .int 0, .int (-1), .int 0, .int 0, .long 0]))] (some (.int (-1))) := by
  refine KR.of (by decide) (Nat.le_of_ble_eq_true rfl) ?_
  intro p e s m below meth c ls hx hb hr hts hml hown hlocks hK hP hl
  have hown : s.vm.findClass RX9 = some m.cls := hown
  have hl : lv_has ls 1 [(0, .ref a)] := hl
  refine lv_aload_n hx hb dX9_place_0 rfl (lv_at hl 0 rfl) ?_
  refine va_get (D := D) (ci := 9) (v := .ref p_reader) (C := RX9) (T := TX9) (N := 13) hx hb hts inX9 hown hK hP 0 rfl rfl 2 (by decide) (hts _ b_483) (fun _ h9 => h9) rfl dX9_place_1 ?_
  refine va_get (D := D) (ci := 4) (v := .int (-1)) (C := RX4) (T := TX4) (N := 9) hx hb hts inX4 hown hK hP 1 rfl rfl 5 (by decide) (hts _ b_237) (fun _ h9 => h9) rfl dX9_place_4 ?_
  exact r_i hx hb hr hlocks rfl dX9_place_7
set_option maxRecDepth 20000 in
set_option maxHeartbeats 2000000 in
theorem c_about (l : Launch) (D : va_G) (E : Nat → ClassId) (a : Nat) (p_tape : Nat) (p_graph : Nat) (p_reader : Nat) (p_ahead : Nat) (p_back : Nat) (p_trail : Nat) (p_landmarks : Nat) (p_hierarchy : Nat) (p_route : Nat) (p_scratch : Nat) (p_toldRow : Nat) (g_xs : Nat) (g_ys : Nat) (g_potentials : Nat) (g_tails : Nat) (g_heads : Nat) (g_weights : Nat) (g_net : Nat) (k : Int32) (w : Int32) : KR l yX9_about cX9_about 3 (some .int) 25 821 D E [.ref a, .int k, .int w] [(a, .inr (9, [.ref p_tape, .ref p_graph, .ref p_reader, .ref p_ahead, .ref p_back, .ref p_trail, .ref p_landmarks, .ref p_hierarchy, .ref p_route, .ref p_scratch, .ref p_toldRow, .int 0, .int 0])), (p_graph, .inr (0, [.ref g_xs, .ref g_ys, .ref g_potentials, .ref g_tails, .ref g_heads, .ref g_weights, .ref g_net, .int 0, .int 0, .long 0]))] (some (.int (-1))) := by
  refine KR.of (by decide) (Nat.le_of_ble_eq_true rfl) ?_
  intro p e s m below meth c ls hx hb hr hts hml hown hlocks hK hP hl
  have hown : s.vm.findClass RX9 = some m.cls := hown
  have hl : lv_has ls 3 [(0, .ref a), (1, .int k), (2, .int w)] := hl
  refine lv_iload_n hx hb dX9_about_0 rfl (lv_at hl 2 rfl) ?_
  refine lv_if_eq (tgt := 9) hx hb dX9_about_1 (by decide) (fun c1 => ?_) (fun c1 => ?_)
  · refine lv_aload_n hx hb dX9_about_9 rfl (lv_at hl 0 rfl) ?_
    refine va_get (D := D) (ci := 9) (v := .ref p_graph) (C := RX9) (T := TX9) (N := 13) hx hb hts inX9 hown hK hP 0 rfl rfl 1 (by decide) (hts _ b_482) (fun _ h9 => h9) rfl dX9_about_10 ?_
    refine lv_iload_n hx hb dX9_about_13 rfl (lv_at hl 1 rfl) ?_
    refine k_RV (As := [.int k]) (rest := []) (ci := 0) (q0 := 1) ⟨hx, hb, hml, hown, hts⟩ (c_hasArc l D E p_graph g_xs g_ys g_potentials g_tails g_heads g_weights g_net k) b_678 b_679 b_680 b_80 b_681 ⟨rfl, hd_X0_hasArc⟩ ⟨⟨by decide, by decide⟩, by decide, by decide⟩ hK hP [1] rfl rfl rfl rfl hl.1 (Nat.le_of_ble_eq_true rfl) dX9_about_14 ?_
    refine lv_if_eq (tgt := 48) hx hb dX9_about_17 (by decide) (fun _ => ?_) (fun h9 => absurd (by decide) h9)
    refine lv_iconst (v := -1) hx hb dX9_about_48 (by decide) ?_
    exact r_i hx hb hr hlocks rfl dX9_about_49
  · refine lv_iload_n hx hb dX9_about_4 rfl (lv_at hl 2 rfl) ?_
    refine lv_iconst (v := 1) hx hb dX9_about_5 (by decide) ?_
    refine lv_icmp_ne (tgt := 50) hx hb dX9_about_6 (by decide) (fun c2 => ?_) (fun c2 => ?_)
    · refine lv_aload_n hx hb dX9_about_50 rfl (lv_at hl 0 rfl) ?_
      refine va_get (D := D) (ci := 9) (v := .ref p_graph) (C := RX9) (T := TX9) (N := 13) hx hb hts inX9 hown hK hP 0 rfl rfl 1 (by decide) (hts _ b_482) (fun _ h9 => h9) rfl dX9_about_51 ?_
      refine lv_iload_n hx hb dX9_about_54 rfl (lv_at hl 1 rfl) ?_
      refine k_RV (As := [.int k]) (rest := []) (ci := 0) (q0 := 1) ⟨hx, hb, hml, hown, hts⟩ (c_hasNode l D E p_graph g_xs g_ys g_potentials g_tails g_heads g_weights g_net k) b_682 b_683 b_684 b_80 b_685 ⟨rfl, hd_X0_hasNode⟩ ⟨⟨by decide, by decide⟩, by decide, by decide⟩ hK hP [1] rfl rfl rfl rfl hl.1 (Nat.le_of_ble_eq_true rfl) dX9_about_55 ?_
      refine lv_if_ne (tgt := 63) hx hb dX9_about_58 (by decide) (fun h9 => absurd (by decide) h9) (fun _ => ?_)
      refine lv_iconst (v := -1) hx hb dX9_about_61 (by decide) ?_
      exact r_i hx hb hr hlocks rfl dX9_about_62
    · refine lv_aload_n hx hb dX9_about_9 rfl (lv_at hl 0 rfl) ?_
      refine va_get (D := D) (ci := 9) (v := .ref p_graph) (C := RX9) (T := TX9) (N := 13) hx hb hts inX9 hown hK hP 0 rfl rfl 1 (by decide) (hts _ b_482) (fun _ h9 => h9) rfl dX9_about_10 ?_
      refine lv_iload_n hx hb dX9_about_13 rfl (lv_at hl 1 rfl) ?_
      refine k_RV (As := [.int k]) (rest := []) (ci := 0) (q0 := 1) ⟨hx, hb, hml, hown, hts⟩ (c_hasArc l D E p_graph g_xs g_ys g_potentials g_tails g_heads g_weights g_net k) b_678 b_679 b_680 b_80 b_681 ⟨rfl, hd_X0_hasArc⟩ ⟨⟨by decide, by decide⟩, by decide, by decide⟩ hK hP [1] rfl rfl rfl rfl hl.1 (Nat.le_of_ble_eq_true rfl) dX9_about_14 ?_
      refine lv_if_eq (tgt := 48) hx hb dX9_about_17 (by decide) (fun _ => ?_) (fun h9 => absurd (by decide) h9)
      refine lv_iconst (v := -1) hx hb dX9_about_48 (by decide) ?_
      exact r_i hx hb hr hlocks rfl dX9_about_49
set_option maxRecDepth 20000 in
set_option maxHeartbeats 2000000 in
theorem c_weight (l : Launch) (D : va_G) (E : Nat → ClassId) (a : Nat) (p_tape : Nat) (p_graph : Nat) (p_reader : Nat) (p_ahead : Nat) (p_back : Nat) (p_trail : Nat) (p_landmarks : Nat) (p_hierarchy : Nat) (p_route : Nat) (p_scratch : Nat) (p_toldRow : Nat) (g_xs : Nat) (g_ys : Nat) (g_potentials : Nat) (g_tails : Nat) (g_heads : Nat) (g_weights : Nat) (g_net : Nat) (k : Int32) : KR l yX9_weight cX9_weight 2 (some .long) 25 821 D E [.ref a, .int k] [(a, .inr (9, [.ref p_tape, .ref p_graph, .ref p_reader, .ref p_ahead, .ref p_back, .ref p_trail, .ref p_landmarks, .ref p_hierarchy, .ref p_route, .ref p_scratch, .ref p_toldRow, .int 0, .int 0])), (p_graph, .inr (0, [.ref g_xs, .ref g_ys, .ref g_potentials, .ref g_tails, .ref g_heads, .ref g_weights, .ref g_net, .int 0, .int 0, .long 0]))] (some (.long (-1))) := by
  refine KR.of (by decide) (Nat.le_of_ble_eq_true rfl) ?_
  intro p e s m below meth c ls hx hb hr hts hml hown hlocks hK hP hl
  have hown : s.vm.findClass RX9 = some m.cls := hown
  have hl : lv_has ls 2 [(0, .ref a), (1, .int k)] := hl
  refine lv_aload_n hx hb dX9_weight_0 rfl (lv_at hl 0 rfl) ?_
  refine va_get (D := D) (ci := 9) (v := .ref p_graph) (C := RX9) (T := TX9) (N := 13) hx hb hts inX9 hown hK hP 0 rfl rfl 1 (by decide) (hts _ b_482) (fun _ h9 => h9) rfl dX9_weight_1 ?_
  refine lv_iload_n hx hb dX9_weight_4 rfl (lv_at hl 1 rfl) ?_
  refine k_RV (As := [.int k]) (rest := []) (ci := 0) (q0 := 1) ⟨hx, hb, hml, hown, hts⟩ (c_hasArc l D E p_graph g_xs g_ys g_potentials g_tails g_heads g_weights g_net k) b_678 b_679 b_680 b_80 b_681 ⟨rfl, hd_X0_hasArc⟩ ⟨⟨by decide, by decide⟩, by decide, by decide⟩ hK hP [1] rfl rfl rfl rfl hl.1 (Nat.le_of_ble_eq_true rfl) dX9_weight_5 ?_
  refine lv_if_eq (tgt := 23) hx hb dX9_weight_8 (by decide) (fun _ => ?_) (fun h9 => absurd (by decide) h9)
  refine lv_ldc2 hx hb hown (hts _ b_694) dX9_weight_23 ?_
  exact r_l hx hb hr hlocks rfl dX9_weight_26
set_option maxRecDepth 20000 in
set_option maxHeartbeats 2000000 in
theorem c_settled (l : Launch) (D : va_G) (E : Nat → ClassId) (a : Nat) (p_tape : Nat) (p_graph : Nat) (p_reader : Nat) (p_ahead : Nat) (p_back : Nat) (p_trail : Nat) (p_landmarks : Nat) (p_hierarchy : Nat) (p_route : Nat) (p_scratch : Nat) (p_toldRow : Nat) (r_nodes : Nat) (r_lengths : Nat) (r_counts : Nat) (r_seen : Nat) (k : Int32) : KR l yX9_settled cX9_settled 2 (some .int) 25 821 D E [.ref a, .int k] [(a, .inr (9, [.ref p_tape, .ref p_graph, .ref p_reader, .ref p_ahead, .ref p_back, .ref p_trail, .ref p_landmarks, .ref p_hierarchy, .ref p_route, .ref p_scratch, .ref p_toldRow, .int 0, .int 0])), (p_trail, .inr (7, [.ref r_nodes, .ref r_lengths, .ref r_counts, .int 0, .ref r_seen]))] (some (.int (-1))) := by
  refine KR.of (by decide) (Nat.le_of_ble_eq_true rfl) ?_
  intro p e s m below meth c ls hx hb hr hts hml hown hlocks hK hP hl
  have hown : s.vm.findClass RX9 = some m.cls := hown
  have hl : lv_has ls 2 [(0, .ref a), (1, .int k)] := hl
  refine lv_aload_n hx hb dX9_settled_0 rfl (lv_at hl 0 rfl) ?_
  refine va_get (D := D) (ci := 9) (v := .ref p_trail) (C := RX9) (T := TX9) (N := 13) hx hb hts inX9 hown hK hP 0 rfl rfl 5 (by decide) (hts _ b_486) (fun _ h9 => h9) rfl dX9_settled_1 ?_
  refine lv_iload_n hx hb dX9_settled_4 rfl (lv_at hl 1 rfl) ?_
  refine k_RV (As := [.int k]) (rest := []) (ci := 7) (q0 := 1) ⟨hx, hb, hml, hown, hts⟩ (c_has l D E p_trail r_nodes r_lengths r_counts r_seen k) b_703 b_704 b_705 b_84 b_706 ⟨rfl, hd_X7_has⟩ ⟨⟨by decide, by decide⟩, by decide, by decide⟩ hK hP [1] rfl rfl rfl rfl hl.1 (Nat.le_of_ble_eq_true rfl) dX9_settled_5 ?_
  refine lv_if_eq (tgt := 23) hx hb dX9_settled_8 (by decide) (fun _ => ?_) (fun h9 => absurd (by decide) h9)
  refine lv_iconst (v := -1) hx hb dX9_settled_23 (by decide) ?_
  exact r_i hx hb hr hlocks rfl dX9_settled_24
set_option maxRecDepth 20000 in
set_option maxHeartbeats 2000000 in
theorem c_length (l : Launch) (D : va_G) (E : Nat → ClassId) (a : Nat) (p_tape : Nat) (p_graph : Nat) (p_reader : Nat) (p_ahead : Nat) (p_back : Nat) (p_trail : Nat) (p_landmarks : Nat) (p_hierarchy : Nat) (p_route : Nat) (p_scratch : Nat) (p_toldRow : Nat) (r_nodes : Nat) (r_lengths : Nat) (r_counts : Nat) (r_seen : Nat) (k : Int32) : KR l yX9_length cX9_length 2 (some .long) 25 821 D E [.ref a, .int k] [(a, .inr (9, [.ref p_tape, .ref p_graph, .ref p_reader, .ref p_ahead, .ref p_back, .ref p_trail, .ref p_landmarks, .ref p_hierarchy, .ref p_route, .ref p_scratch, .ref p_toldRow, .int 0, .int 0])), (p_trail, .inr (7, [.ref r_nodes, .ref r_lengths, .ref r_counts, .int 0, .ref r_seen]))] (some (.long (-1))) := by
  refine KR.of (by decide) (Nat.le_of_ble_eq_true rfl) ?_
  intro p e s m below meth c ls hx hb hr hts hml hown hlocks hK hP hl
  have hown : s.vm.findClass RX9 = some m.cls := hown
  have hl : lv_has ls 2 [(0, .ref a), (1, .int k)] := hl
  refine lv_aload_n hx hb dX9_length_0 rfl (lv_at hl 0 rfl) ?_
  refine va_get (D := D) (ci := 9) (v := .ref p_trail) (C := RX9) (T := TX9) (N := 13) hx hb hts inX9 hown hK hP 0 rfl rfl 5 (by decide) (hts _ b_486) (fun _ h9 => h9) rfl dX9_length_1 ?_
  refine lv_iload_n hx hb dX9_length_4 rfl (lv_at hl 1 rfl) ?_
  refine k_RV (As := [.int k]) (rest := []) (ci := 7) (q0 := 1) ⟨hx, hb, hml, hown, hts⟩ (c_has l D E p_trail r_nodes r_lengths r_counts r_seen k) b_703 b_704 b_705 b_84 b_706 ⟨rfl, hd_X7_has⟩ ⟨⟨by decide, by decide⟩, by decide, by decide⟩ hK hP [1] rfl rfl rfl rfl hl.1 (Nat.le_of_ble_eq_true rfl) dX9_length_5 ?_
  refine lv_if_eq (tgt := 23) hx hb dX9_length_8 (by decide) (fun _ => ?_) (fun h9 => absurd (by decide) h9)
  refine lv_ldc2 hx hb hown (hts _ b_694) dX9_length_23 ?_
  exact r_l hx hb hr hlocks rfl dX9_length_26
set_option maxRecDepth 20000 in
set_option maxHeartbeats 2000000 in
theorem c_count (l : Launch) (D : va_G) (E : Nat → ClassId) (a : Nat) (p_tape : Nat) (p_graph : Nat) (p_reader : Nat) (p_ahead : Nat) (p_back : Nat) (p_trail : Nat) (p_landmarks : Nat) (p_hierarchy : Nat) (p_route : Nat) (p_scratch : Nat) (p_toldRow : Nat) (r_nodes : Nat) (r_lengths : Nat) (r_counts : Nat) (r_seen : Nat) (k : Int32) : KR l yX9_count cX9_count 2 (some .int) 25 821 D E [.ref a, .int k] [(a, .inr (9, [.ref p_tape, .ref p_graph, .ref p_reader, .ref p_ahead, .ref p_back, .ref p_trail, .ref p_landmarks, .ref p_hierarchy, .ref p_route, .ref p_scratch, .ref p_toldRow, .int 0, .int 0])), (p_trail, .inr (7, [.ref r_nodes, .ref r_lengths, .ref r_counts, .int 0, .ref r_seen]))] (some (.int (-1))) := by
  refine KR.of (by decide) (Nat.le_of_ble_eq_true rfl) ?_
  intro p e s m below meth c ls hx hb hr hts hml hown hlocks hK hP hl
  have hown : s.vm.findClass RX9 = some m.cls := hown
  have hl : lv_has ls 2 [(0, .ref a), (1, .int k)] := hl
  refine lv_aload_n hx hb dX9_count_0 rfl (lv_at hl 0 rfl) ?_
  refine va_get (D := D) (ci := 9) (v := .ref p_trail) (C := RX9) (T := TX9) (N := 13) hx hb hts inX9 hown hK hP 0 rfl rfl 5 (by decide) (hts _ b_486) (fun _ h9 => h9) rfl dX9_count_1 ?_
  refine lv_iload_n hx hb dX9_count_4 rfl (lv_at hl 1 rfl) ?_
  refine k_RV (As := [.int k]) (rest := []) (ci := 7) (q0 := 1) ⟨hx, hb, hml, hown, hts⟩ (c_has l D E p_trail r_nodes r_lengths r_counts r_seen k) b_703 b_704 b_705 b_84 b_706 ⟨rfl, hd_X7_has⟩ ⟨⟨by decide, by decide⟩, by decide, by decide⟩ hK hP [1] rfl rfl rfl rfl hl.1 (Nat.le_of_ble_eq_true rfl) dX9_count_5 ?_
  refine lv_if_eq (tgt := 23) hx hb dX9_count_8 (by decide) (fun _ => ?_) (fun h9 => absurd (by decide) h9)
  refine lv_iconst (v := -1) hx hb dX9_count_23 (by decide) ?_
  exact r_i hx hb hr hlocks rfl dX9_count_24
set_option maxRecDepth 20000 in
set_option maxHeartbeats 2000000 in
theorem c_distance (l : Launch) (D : va_G) (E : Nat → ClassId) (a : Nat) (p_tape : Nat) (p_graph : Nat) (p_reader : Nat) (p_ahead : Nat) (p_back : Nat) (p_trail : Nat) (p_landmarks : Nat) (p_hierarchy : Nat) (p_route : Nat) (p_scratch : Nat) (p_toldRow : Nat) (g_xs : Nat) (g_ys : Nat) (g_potentials : Nat) (g_tails : Nat) (g_heads : Nat) (g_weights : Nat) (g_net : Nat) (k : Int32) (w : Int32) : KR l yX9_distance cX9_distance 3 (some .long) 38 1243 D E [.ref a, .int k, .int w] [(a, .inr (9, [.ref p_tape, .ref p_graph, .ref p_reader, .ref p_ahead, .ref p_back, .ref p_trail, .ref p_landmarks, .ref p_hierarchy, .ref p_route, .ref p_scratch, .ref p_toldRow, .int 0, .int 0])), (p_graph, .inr (0, [.ref g_xs, .ref g_ys, .ref g_potentials, .ref g_tails, .ref g_heads, .ref g_weights, .ref g_net, .int 0, .int 0, .long 0]))] (some (.long (-1))) := by
  refine KR.of (by decide) (Nat.le_of_ble_eq_true rfl) ?_
  intro p e s m below meth c ls hx hb hr hts hml hown hlocks hK hP hl
  have hown : s.vm.findClass RX9 = some m.cls := hown
  have hl : lv_has ls 3 [(0, .ref a), (1, .int k), (2, .int w)] := hl
  refine lv_aload_n hx hb dX9_distance_0 rfl (lv_at hl 0 rfl) ?_
  refine lv_iload_n hx hb dX9_distance_1 rfl (lv_at hl 1 rfl) ?_
  refine lv_iload_n hx hb dX9_distance_2 rfl (lv_at hl 2 rfl) ?_
  refine k_RV (As := [.int k, .int w]) (rest := []) (ci := 9) (q0 := 0) ⟨hx, hb, hml, hown, hts⟩ (c_findWays l D E a p_tape p_graph p_reader p_ahead p_back p_trail p_landmarks p_hierarchy p_route p_scratch p_toldRow g_xs g_ys g_potentials g_tails g_heads g_weights g_net k w) b_719 b_721 b_13 b_78 b_722 ⟨rfl, hd_X9_findWays⟩ ⟨⟨by decide, by decide⟩, by decide, by decide⟩ hK hP [0, 1] rfl rfl rfl rfl hl.1 (Nat.le_of_ble_eq_true rfl) dX9_distance_3 ?_
  refine lv_if_eq (tgt := 21) hx hb dX9_distance_6 (by decide) (fun _ => ?_) (fun h9 => absurd (by decide) h9)
  refine lv_ldc2 hx hb hown (hts _ b_694) dX9_distance_21 ?_
  exact r_l hx hb hr hlocks rfl dX9_distance_24
set_option maxRecDepth 20000 in
set_option maxHeartbeats 2000000 in
theorem c_arcs (l : Launch) (D : va_G) (E : Nat → ClassId) (a : Nat) (p_tape : Nat) (p_graph : Nat) (p_reader : Nat) (p_ahead : Nat) (p_back : Nat) (p_trail : Nat) (p_landmarks : Nat) (p_hierarchy : Nat) (p_route : Nat) (p_scratch : Nat) (p_toldRow : Nat) (g_xs : Nat) (g_ys : Nat) (g_potentials : Nat) (g_tails : Nat) (g_heads : Nat) (g_weights : Nat) (g_net : Nat) (k : Int32) (w : Int32) : KR l yX9_arcs cX9_arcs 3 (some .int) 38 1243 D E [.ref a, .int k, .int w] [(a, .inr (9, [.ref p_tape, .ref p_graph, .ref p_reader, .ref p_ahead, .ref p_back, .ref p_trail, .ref p_landmarks, .ref p_hierarchy, .ref p_route, .ref p_scratch, .ref p_toldRow, .int 0, .int 0])), (p_graph, .inr (0, [.ref g_xs, .ref g_ys, .ref g_potentials, .ref g_tails, .ref g_heads, .ref g_weights, .ref g_net, .int 0, .int 0, .long 0]))] (some (.int (-1))) := by
  refine KR.of (by decide) (Nat.le_of_ble_eq_true rfl) ?_
  intro p e s m below meth c ls hx hb hr hts hml hown hlocks hK hP hl
  have hown : s.vm.findClass RX9 = some m.cls := hown
  have hl : lv_has ls 3 [(0, .ref a), (1, .int k), (2, .int w)] := hl
  refine lv_aload_n hx hb dX9_arcs_0 rfl (lv_at hl 0 rfl) ?_
  refine lv_iload_n hx hb dX9_arcs_1 rfl (lv_at hl 1 rfl) ?_
  refine lv_iload_n hx hb dX9_arcs_2 rfl (lv_at hl 2 rfl) ?_
  refine k_RV (As := [.int k, .int w]) (rest := []) (ci := 9) (q0 := 0) ⟨hx, hb, hml, hown, hts⟩ (c_findWays l D E a p_tape p_graph p_reader p_ahead p_back p_trail p_landmarks p_hierarchy p_route p_scratch p_toldRow g_xs g_ys g_potentials g_tails g_heads g_weights g_net k w) b_719 b_721 b_13 b_78 b_722 ⟨rfl, hd_X9_findWays⟩ ⟨⟨by decide, by decide⟩, by decide, by decide⟩ hK hP [0, 1] rfl rfl rfl rfl hl.1 (Nat.le_of_ble_eq_true rfl) dX9_arcs_3 ?_
  refine lv_if_eq (tgt := 21) hx hb dX9_arcs_6 (by decide) (fun _ => ?_) (fun h9 => absurd (by decide) h9)
  refine lv_iconst (v := -1) hx hb dX9_arcs_21 (by decide) ?_
  exact r_i hx hb hr hlocks rfl dX9_arcs_22
set_option maxRecDepth 20000 in
set_option maxHeartbeats 2000000 in
theorem c_inconsistent (l : Launch) (D : va_G) (E : Nat → ClassId) (a : Nat) (p_tape : Nat) (p_graph : Nat) (p_reader : Nat) (p_ahead : Nat) (p_back : Nat) (p_trail : Nat) (p_landmarks : Nat) (p_hierarchy : Nat) (p_route : Nat) (p_scratch : Nat) (p_toldRow : Nat) (g_xs : Nat) (g_ys : Nat) (g_potentials : Nat) (g_tails : Nat) (g_heads : Nat) (g_weights : Nat) (g_net : Nat) : KR l yX9_inconsistent cX9_inconsistent 1 (some .int) 25 822 D E [.ref a] [(a, .inr (9, [.ref p_tape, .ref p_graph, .ref p_reader, .ref p_ahead, .ref p_back, .ref p_trail, .ref p_landmarks, .ref p_hierarchy, .ref p_route, .ref p_scratch, .ref p_toldRow, .int 0, .int 0])), (p_graph, .inr (0, [.ref g_xs, .ref g_ys, .ref g_potentials, .ref g_tails, .ref g_heads, .ref g_weights, .ref g_net, .int 0, .int 0, .long 0]))] (some (.int (-1))) := by
  refine KR.of (by decide) (Nat.le_of_ble_eq_true rfl) ?_
  intro p e s m below meth c ls hx hb hr hts hml hown hlocks hK hP hl
  have hown : s.vm.findClass RX9 = some m.cls := hown
  have hl : lv_has ls 1 [(0, .ref a)] := hl
  refine lv_aload_n hx hb dX9_inconsistent_0 rfl (lv_at hl 0 rfl) ?_
  refine va_get (D := D) (ci := 9) (v := .ref p_graph) (C := RX9) (T := TX9) (N := 13) hx hb hts inX9 hown hK hP 0 rfl rfl 1 (by decide) (hts _ b_482) (fun _ h9 => h9) rfl dX9_inconsistent_1 ?_
  refine lv_aload_n hx hb dX9_inconsistent_4 rfl (lv_at hl 0 rfl) ?_
  refine va_get (D := D) (ci := 9) (v := .ref p_graph) (C := RX9) (T := TX9) (N := 13) hx hb hts inX9 hown hK hP 0 rfl rfl 1 (by decide) (hts _ b_482) (fun _ h9 => h9) rfl dX9_inconsistent_5 ?_
  refine va_get (D := D) (ci := 0) (v := .ref g_potentials) (C := RX0) (T := TX0) (N := 10) hx hb hts inX0 hown hK hP 1 rfl rfl 2 (by decide) (hts _ b_186) (fun _ h9 => h9) rfl dX9_inconsistent_8 ?_
  refine k_RV (As := [.ref g_potentials]) (rest := []) (ci := 0) (q0 := 1) ⟨hx, hb, hml, hown, hts⟩ (c_firstInc l D E p_graph g_potentials g_xs g_ys g_potentials g_tails g_heads g_weights g_net) b_751 b_752 b_753 b_80 b_754 ⟨rfl, hd_X0_firstInconsistent⟩ ⟨⟨by decide, by decide⟩, by decide, by decide⟩ hK hP [1] rfl rfl rfl rfl hl.1 (Nat.le_of_ble_eq_true rfl) dX9_inconsistent_11 ?_
  exact r_i hx hb hr hlocks rfl dX9_inconsistent_14
set_option maxRecDepth 20000 in
set_option maxHeartbeats 2000000 in
theorem c_bound (l : Launch) (D : va_G) (E : Nat → ClassId) (a : Nat) (p_tape : Nat) (p_graph : Nat) (p_reader : Nat) (p_ahead : Nat) (p_back : Nat) (p_trail : Nat) (p_landmarks : Nat) (p_hierarchy : Nat) (p_route : Nat) (p_scratch : Nat) (p_toldRow : Nat) (g_xs : Nat) (g_ys : Nat) (g_potentials : Nat) (g_tails : Nat) (g_heads : Nat) (g_weights : Nat) (g_net : Nat) (k : Int32) (w : Int32) : KR l yX9_bound cX9_bound 3 (some .long) 25 821 D E [.ref a, .int k, .int w] [(a, .inr (9, [.ref p_tape, .ref p_graph, .ref p_reader, .ref p_ahead, .ref p_back, .ref p_trail, .ref p_landmarks, .ref p_hierarchy, .ref p_route, .ref p_scratch, .ref p_toldRow, .int 0, .int 0])), (p_graph, .inr (0, [.ref g_xs, .ref g_ys, .ref g_potentials, .ref g_tails, .ref g_heads, .ref g_weights, .ref g_net, .int 0, .int 0, .long 0]))] (some (.long (-1))) := by
  refine KR.of (by decide) (Nat.le_of_ble_eq_true rfl) ?_
  intro p e s m below meth c ls hx hb hr hts hml hown hlocks hK hP hl
  have hown : s.vm.findClass RX9 = some m.cls := hown
  have hl : lv_has ls 3 [(0, .ref a), (1, .int k), (2, .int w)] := hl
  refine lv_aload_n hx hb dX9_bound_0 rfl (lv_at hl 0 rfl) ?_
  refine va_get (D := D) (ci := 9) (v := .ref p_graph) (C := RX9) (T := TX9) (N := 13) hx hb hts inX9 hown hK hP 0 rfl rfl 1 (by decide) (hts _ b_482) (fun _ h9 => h9) rfl dX9_bound_1 ?_
  refine lv_iload_n hx hb dX9_bound_4 rfl (lv_at hl 1 rfl) ?_
  refine k_RV (As := [.int k]) (rest := []) (ci := 0) (q0 := 1) ⟨hx, hb, hml, hown, hts⟩ (c_hasNode l D E p_graph g_xs g_ys g_potentials g_tails g_heads g_weights g_net k) b_682 b_683 b_684 b_80 b_685 ⟨rfl, hd_X0_hasNode⟩ ⟨⟨by decide, by decide⟩, by decide, by decide⟩ hK hP [1] rfl rfl rfl rfl hl.1 (Nat.le_of_ble_eq_true rfl) dX9_bound_5 ?_
  refine lv_if_eq (tgt := 32) hx hb dX9_bound_8 (by decide) (fun _ => ?_) (fun h9 => absurd (by decide) h9)
  refine lv_ldc2 hx hb hown (hts _ b_694) dX9_bound_32 ?_
  exact r_l hx hb hr hlocks rfl dX9_bound_35
set_option maxRecDepth 20000 in
set_option maxHeartbeats 2000000 in
theorem c_ready (l : Launch) (D : va_G) (E : Nat → ClassId) (a : Nat) (p_tape : Nat) (p_graph : Nat) (p_reader : Nat) (p_ahead : Nat) (p_back : Nat) (p_trail : Nat) (p_landmarks : Nat) (p_hierarchy : Nat) (p_route : Nat) (p_scratch : Nat) (p_toldRow : Nat) (h_net : Nat) (h_ranks : Nat) (h_row : Nat) (h_witnesses : Nat) (h_contractedBeside : Nat) (h_wantedFrom : Nat) (h_wantedTo : Nat) : KR l yX9_ready cX9_ready 1 (some .int) 12 400 D E [.ref a] [(a, .inr (9, [.ref p_tape, .ref p_graph, .ref p_reader, .ref p_ahead, .ref p_back, .ref p_trail, .ref p_landmarks, .ref p_hierarchy, .ref p_route, .ref p_scratch, .ref p_toldRow, .int 0, .int 0])), (p_hierarchy, .inr (1, [.ref h_net, .ref h_ranks, .ref h_row, .int 0, .int 0, .int 0, .int 4, .int 2, .int 1, .ref h_witnesses, .ref h_contractedBeside, .ref h_wantedFrom, .ref h_wantedTo, .int 0]))] (some (.int 0)) := by
  refine KR.of (by decide) (Nat.le_of_ble_eq_true rfl) ?_
  intro p e s m below meth c ls hx hb hr hts hml hown hlocks hK hP hl
  have hown : s.vm.findClass RX9 = some m.cls := hown
  have hl : lv_has ls 1 [(0, .ref a)] := hl
  refine lv_aload_n hx hb dX9_ready_0 rfl (lv_at hl 0 rfl) ?_
  refine va_get (D := D) (ci := 9) (v := .ref p_hierarchy) (C := RX9) (T := TX9) (N := 13) hx hb hts inX9 hown hK hP 0 rfl rfl 7 (by decide) (hts _ b_488) (fun _ h9 => h9) rfl dX9_ready_1 ?_
  refine va_get (D := D) (ci := 1) (v := .int 0) (C := RX1) (T := TX1) (N := 14) hx hb hts inX1 hown hK hP 1 rfl rfl 3 (by decide) (hts _ b_365) (fun _ h9 => h9) rfl dX9_ready_4 ?_
  refine lv_if_eq (tgt := 14) hx hb dX9_ready_7 (by decide) (fun _ => ?_) (fun h9 => absurd (by decide) h9)
  refine lv_iconst (v := 0) hx hb dX9_ready_14 (by decide) ?_
  exact r_i hx hb hr hlocks rfl dX9_ready_15
set_option maxRecDepth 20000 in
set_option maxHeartbeats 2000000 in
theorem c_ranked (l : Launch) (D : va_G) (E : Nat → ClassId) (a : Nat) (p_tape : Nat) (p_graph : Nat) (p_reader : Nat) (p_ahead : Nat) (p_back : Nat) (p_trail : Nat) (p_landmarks : Nat) (p_hierarchy : Nat) (p_route : Nat) (p_scratch : Nat) (p_toldRow : Nat) (h_net : Nat) (h_ranks : Nat) (h_row : Nat) (h_witnesses : Nat) (h_contractedBeside : Nat) (h_wantedFrom : Nat) (h_wantedTo : Nat) (k : Int32) : KR l yX9_ranked cX9_ranked 2 (some .int) 12 400 D E [.ref a, .int k] [(a, .inr (9, [.ref p_tape, .ref p_graph, .ref p_reader, .ref p_ahead, .ref p_back, .ref p_trail, .ref p_landmarks, .ref p_hierarchy, .ref p_route, .ref p_scratch, .ref p_toldRow, .int 0, .int 0])), (p_hierarchy, .inr (1, [.ref h_net, .ref h_ranks, .ref h_row, .int 0, .int 0, .int 0, .int 4, .int 2, .int 1, .ref h_witnesses, .ref h_contractedBeside, .ref h_wantedFrom, .ref h_wantedTo, .int 0]))] (some (.int (-1))) := by
  refine KR.of (by decide) (Nat.le_of_ble_eq_true rfl) ?_
  intro p e s m below meth c ls hx hb hr hts hml hown hlocks hK hP hl
  have hown : s.vm.findClass RX9 = some m.cls := hown
  have hl : lv_has ls 2 [(0, .ref a), (1, .int k)] := hl
  refine lv_aload_n hx hb dX9_ranked_0 rfl (lv_at hl 0 rfl) ?_
  refine va_get (D := D) (ci := 9) (v := .ref p_hierarchy) (C := RX9) (T := TX9) (N := 13) hx hb hts inX9 hown hK hP 0 rfl rfl 7 (by decide) (hts _ b_488) (fun _ h9 => h9) rfl dX9_ranked_1 ?_
  refine va_get (D := D) (ci := 1) (v := .int 0) (C := RX1) (T := TX1) (N := 14) hx hb hts inX1 hown hK hP 1 rfl rfl 3 (by decide) (hts _ b_365) (fun _ h9 => h9) rfl dX9_ranked_4 ?_
  refine lv_if_eq (tgt := 37) hx hb dX9_ranked_7 (by decide) (fun _ => ?_) (fun h9 => absurd (by decide) h9)
  refine lv_iconst (v := -1) hx hb dX9_ranked_37 (by decide) ?_
  exact r_i hx hb hr hlocks rfl dX9_ranked_38
set_option maxRecDepth 20000 in
set_option maxHeartbeats 2000000 in
theorem c_edge (l : Launch) (D : va_G) (E : Nat → ClassId) (a : Nat) (p_tape : Nat) (p_graph : Nat) (p_reader : Nat) (p_ahead : Nat) (p_back : Nat) (p_trail : Nat) (p_landmarks : Nat) (p_hierarchy : Nat) (p_route : Nat) (p_scratch : Nat) (p_toldRow : Nat) (h_net : Nat) (h_ranks : Nat) (h_row : Nat) (h_witnesses : Nat) (h_contractedBeside : Nat) (h_wantedFrom : Nat) (h_wantedTo : Nat) (k : Int32) (d : Int32) (i : Int32) (w : Int32) : KR l yX9_edge cX9_edge 6 (some .int) 25 823 D E [.ref a, .int k, .int d, .int i, .int w] [(a, .inr (9, [.ref p_tape, .ref p_graph, .ref p_reader, .ref p_ahead, .ref p_back, .ref p_trail, .ref p_landmarks, .ref p_hierarchy, .ref p_route, .ref p_scratch, .ref p_toldRow, .int 0, .int 0])), (p_hierarchy, .inr (1, [.ref h_net, .ref h_ranks, .ref h_row, .int 0, .int 0, .int 0, .int 4, .int 2, .int 1, .ref h_witnesses, .ref h_contractedBeside, .ref h_wantedFrom, .ref h_wantedTo, .int 0]))] (some (.int (-1))) := by
  refine KR.of (by decide) (Nat.le_of_ble_eq_true rfl) ?_
  intro p e s m below meth c ls hx hb hr hts hml hown hlocks hK hP hl
  have hown : s.vm.findClass RX9 = some m.cls := hown
  have hl : lv_has ls 6 [(0, .ref a), (1, .int k), (2, .int d), (3, .int i), (4, .int w)] := hl
  refine lv_aload_n hx hb dX9_edge_0 rfl (lv_at hl 0 rfl) ?_
  refine lv_iload_n hx hb dX9_edge_1 rfl (lv_at hl 1 rfl) ?_
  refine lv_iload_n hx hb dX9_edge_2 rfl (lv_at hl 2 rfl) ?_
  refine lv_iload_n hx hb dX9_edge_3 rfl (lv_at hl 3 rfl) ?_
  refine k_RV (As := [.int k, .int d, .int i]) (rest := []) (ci := 9) (q0 := 0) ⟨hx, hb, hml, hown, hts⟩ (c_findEdge l D E a p_tape p_graph p_reader p_ahead p_back p_trail p_landmarks p_hierarchy p_route p_scratch p_toldRow h_net h_ranks h_row h_witnesses h_contractedBeside h_wantedFrom h_wantedTo k d i) b_798 b_800 b_17 b_78 b_801 ⟨rfl, hd_X9_findEdge⟩ ⟨⟨by decide, by decide⟩, by decide, by decide⟩ hK hP [0, 1] rfl rfl rfl rfl hl.1 (Nat.le_of_ble_eq_true rfl) dX9_edge_4 ?_
  refine lv_istore (lv' := [(5, .int (-1)), (0, .ref a), (1, .int k), (2, .int d), (3, .int i), (4, .int w)]) hx hb dX9_edge_7 hl (by decide) rfl (fun ls hl => ?_)
  refine lv_iload hx hb dX9_edge_9 (lv_at hl 0 rfl) ?_
  refine lv_iconst (v := -1) hx hb dX9_edge_11 (by decide) ?_
  refine lv_icmp_ne (tgt := 17) hx hb dX9_edge_12 (by decide) (fun h9 => absurd (by decide) h9) (fun _ => ?_)
  refine lv_iconst (v := -1) hx hb dX9_edge_15 (by decide) ?_
  exact r_i hx hb hr hlocks rfl dX9_edge_16
set_option maxRecDepth 20000 in
set_option maxHeartbeats 2000000 in
theorem c_edgeLength (l : Launch) (D : va_G) (E : Nat → ClassId) (a : Nat) (p_tape : Nat) (p_graph : Nat) (p_reader : Nat) (p_ahead : Nat) (p_back : Nat) (p_trail : Nat) (p_landmarks : Nat) (p_hierarchy : Nat) (p_route : Nat) (p_scratch : Nat) (p_toldRow : Nat) (h_net : Nat) (h_ranks : Nat) (h_row : Nat) (h_witnesses : Nat) (h_contractedBeside : Nat) (h_wantedFrom : Nat) (h_wantedTo : Nat) (k : Int32) (d : Int32) (i : Int32) : KR l yX9_edgeLength cX9_edgeLength 5 (some .long) 25 823 D E [.ref a, .int k, .int d, .int i] [(a, .inr (9, [.ref p_tape, .ref p_graph, .ref p_reader, .ref p_ahead, .ref p_back, .ref p_trail, .ref p_landmarks, .ref p_hierarchy, .ref p_route, .ref p_scratch, .ref p_toldRow, .int 0, .int 0])), (p_hierarchy, .inr (1, [.ref h_net, .ref h_ranks, .ref h_row, .int 0, .int 0, .int 0, .int 4, .int 2, .int 1, .ref h_witnesses, .ref h_contractedBeside, .ref h_wantedFrom, .ref h_wantedTo, .int 0]))] (some (.long (-1))) := by
  refine KR.of (by decide) (Nat.le_of_ble_eq_true rfl) ?_
  intro p e s m below meth c ls hx hb hr hts hml hown hlocks hK hP hl
  have hown : s.vm.findClass RX9 = some m.cls := hown
  have hl : lv_has ls 5 [(0, .ref a), (1, .int k), (2, .int d), (3, .int i)] := hl
  refine lv_aload_n hx hb dX9_edgeLength_0 rfl (lv_at hl 0 rfl) ?_
  refine lv_iload_n hx hb dX9_edgeLength_1 rfl (lv_at hl 1 rfl) ?_
  refine lv_iload_n hx hb dX9_edgeLength_2 rfl (lv_at hl 2 rfl) ?_
  refine lv_iload_n hx hb dX9_edgeLength_3 rfl (lv_at hl 3 rfl) ?_
  refine k_RV (As := [.int k, .int d, .int i]) (rest := []) (ci := 9) (q0 := 0) ⟨hx, hb, hml, hown, hts⟩ (c_findEdge l D E a p_tape p_graph p_reader p_ahead p_back p_trail p_landmarks p_hierarchy p_route p_scratch p_toldRow h_net h_ranks h_row h_witnesses h_contractedBeside h_wantedFrom h_wantedTo k d i) b_798 b_800 b_17 b_78 b_801 ⟨rfl, hd_X9_findEdge⟩ ⟨⟨by decide, by decide⟩, by decide, by decide⟩ hK hP [0, 1] rfl rfl rfl rfl hl.1 (Nat.le_of_ble_eq_true rfl) dX9_edgeLength_4 ?_
  refine lv_istore (lv' := [(4, .int (-1)), (0, .ref a), (1, .int k), (2, .int d), (3, .int i)]) hx hb dX9_edgeLength_7 hl (by decide) rfl (fun ls hl => ?_)
  refine lv_iload hx hb dX9_edgeLength_9 (lv_at hl 0 rfl) ?_
  refine lv_iconst (v := -1) hx hb dX9_edgeLength_11 (by decide) ?_
  refine lv_icmp_ne (tgt := 21) hx hb dX9_edgeLength_12 (by decide) (fun h9 => absurd (by decide) h9) (fun _ => ?_)
  refine lv_ldc2 hx hb hown (hts _ b_694) dX9_edgeLength_15 ?_
  refine lv_goto (tgt := 34) hx hb dX9_edgeLength_18 (by decide) ?_
  exact r_l hx hb hr hlocks rfl dX9_edgeLength_34
set_option maxRecDepth 20000 in
set_option maxHeartbeats 2000000 in
theorem c_told (l : Launch) (D : va_G) (E : Nat → ClassId) (a : Nat) (p_tape : Nat) (p_graph : Nat) (p_reader : Nat) (p_ahead : Nat) (p_back : Nat) (p_trail : Nat) (p_landmarks : Nat) (p_hierarchy : Nat) (p_route : Nat) (p_scratch : Nat) (p_toldRow : Nat) (o_relaxedFrom : Nat) (o_relaxedTo : Nat) (o_walk : Nat) (o_upLengths : Nat) (o_upCounts : Nat) (o_downLengths : Nat) (o_downCounts : Nat) (o_chain : Nat) (k : Int32) : KR l yX9_told cX9_told 3 (some .int) 12 400 D E [.ref a, .int k] [(a, .inr (9, [.ref p_tape, .ref p_graph, .ref p_reader, .ref p_ahead, .ref p_back, .ref p_trail, .ref p_landmarks, .ref p_hierarchy, .ref p_route, .ref p_scratch, .ref p_toldRow, .int 0, .int 0])), (p_route, .inr (5, [.ref o_relaxedFrom, .ref o_relaxedTo, .ref o_walk, .int 0, .int 0, .int 0, .int 0, .int 0, .int 0, .int 0, .int (-1), .long 0, .ref o_upLengths, .ref o_upCounts, .ref o_downLengths, .ref o_downCounts, .ref o_chain]))] (some (.int (-1))) := by
  refine KR.of (by decide) (Nat.le_of_ble_eq_true rfl) ?_
  intro p e s m below meth c ls hx hb hr hts hml hown hlocks hK hP hl
  have hown : s.vm.findClass RX9 = some m.cls := hown
  have hl : lv_has ls 3 [(0, .ref a), (1, .int k)] := hl
  refine lv_aload_n hx hb dX9_told_0 rfl (lv_at hl 0 rfl) ?_
  refine va_get (D := D) (ci := 9) (v := .ref p_route) (C := RX9) (T := TX9) (N := 13) hx hb hts inX9 hown hK hP 0 rfl rfl 8 (by decide) (hts _ b_489) (fun _ h9 => h9) rfl dX9_told_1 ?_
  refine va_get (D := D) (ci := 5) (v := .int 0) (C := RX5) (T := TX5) (N := 17) hx hb hts inX5 hown hK hP 1 rfl rfl 3 (by decide) (hts _ b_424) (fun _ h9 => h9) rfl dX9_told_4 ?_
  refine lv_if_ne (tgt := 12) hx hb dX9_told_7 (by decide) (fun h9 => absurd (by decide) h9) (fun _ => ?_)
  refine lv_iconst (v := -1) hx hb dX9_told_10 (by decide) ?_
  exact r_i hx hb hr hlocks rfl dX9_told_11
set_option maxRecDepth 20000 in
set_option maxHeartbeats 2000000 in
theorem c_found (l : Launch) (D : va_G) (E : Nat → ClassId) (a : Nat) (p_tape : Nat) (p_graph : Nat) (p_reader : Nat) (p_ahead : Nat) (p_back : Nat) (p_trail : Nat) (p_landmarks : Nat) (p_hierarchy : Nat) (p_route : Nat) (p_scratch : Nat) (p_toldRow : Nat) (o_relaxedFrom : Nat) (o_relaxedTo : Nat) (o_walk : Nat) (o_upLengths : Nat) (o_upCounts : Nat) (o_downLengths : Nat) (o_downCounts : Nat) (o_chain : Nat) : KR l yX9_found cX9_found 1 (some .long) 12 400 D E [.ref a] [(a, .inr (9, [.ref p_tape, .ref p_graph, .ref p_reader, .ref p_ahead, .ref p_back, .ref p_trail, .ref p_landmarks, .ref p_hierarchy, .ref p_route, .ref p_scratch, .ref p_toldRow, .int 0, .int 0])), (p_route, .inr (5, [.ref o_relaxedFrom, .ref o_relaxedTo, .ref o_walk, .int 0, .int 0, .int 0, .int 0, .int 0, .int 0, .int 0, .int (-1), .long 0, .ref o_upLengths, .ref o_upCounts, .ref o_downLengths, .ref o_downCounts, .ref o_chain]))] (some (.long (-1))) := by
  refine KR.of (by decide) (Nat.le_of_ble_eq_true rfl) ?_
  intro p e s m below meth c ls hx hb hr hts hml hown hlocks hK hP hl
  have hown : s.vm.findClass RX9 = some m.cls := hown
  have hl : lv_has ls 1 [(0, .ref a)] := hl
  refine lv_aload_n hx hb dX9_found_0 rfl (lv_at hl 0 rfl) ?_
  refine va_get (D := D) (ci := 9) (v := .ref p_route) (C := RX9) (T := TX9) (N := 13) hx hb hts inX9 hown hK hP 0 rfl rfl 8 (by decide) (hts _ b_489) (fun _ h9 => h9) rfl dX9_found_1 ?_
  refine va_get (D := D) (ci := 5) (v := .int 0) (C := RX5) (T := TX5) (N := 17) hx hb hts inX5 hown hK hP 1 rfl rfl 3 (by decide) (hts _ b_424) (fun _ h9 => h9) rfl dX9_found_4 ?_
  refine lv_if_eq (tgt := 31) hx hb dX9_found_7 (by decide) (fun _ => ?_) (fun h9 => absurd (by decide) h9)
  refine lv_ldc2 hx hb hown (hts _ b_694) dX9_found_31 ?_
  exact r_l hx hb hr hlocks rfl dX9_found_34
set_option maxRecDepth 20000 in
set_option maxHeartbeats 2000000 in
theorem c_step (l : Launch) (D : va_G) (E : Nat → ClassId) (a : Nat) (p_tape : Nat) (p_graph : Nat) (p_reader : Nat) (p_ahead : Nat) (p_back : Nat) (p_trail : Nat) (p_landmarks : Nat) (p_hierarchy : Nat) (p_route : Nat) (p_scratch : Nat) (p_toldRow : Nat) (o_relaxedFrom : Nat) (o_relaxedTo : Nat) (o_walk : Nat) (o_upLengths : Nat) (o_upCounts : Nat) (o_downLengths : Nat) (o_downCounts : Nat) (o_chain : Nat) (k : Int32) : KR l yX9_step cX9_step 2 (some .int) 12 400 D E [.ref a, .int k] [(a, .inr (9, [.ref p_tape, .ref p_graph, .ref p_reader, .ref p_ahead, .ref p_back, .ref p_trail, .ref p_landmarks, .ref p_hierarchy, .ref p_route, .ref p_scratch, .ref p_toldRow, .int 0, .int 0])), (p_route, .inr (5, [.ref o_relaxedFrom, .ref o_relaxedTo, .ref o_walk, .int 0, .int 0, .int 0, .int 0, .int 0, .int 0, .int 0, .int (-1), .long 0, .ref o_upLengths, .ref o_upCounts, .ref o_downLengths, .ref o_downCounts, .ref o_chain]))] (some (.int (-1))) := by
  refine KR.of (by decide) (Nat.le_of_ble_eq_true rfl) ?_
  intro p e s m below meth c ls hx hb hr hts hml hown hlocks hK hP hl
  have hown : s.vm.findClass RX9 = some m.cls := hown
  have hl : lv_has ls 2 [(0, .ref a), (1, .int k)] := hl
  refine lv_aload_n hx hb dX9_step_0 rfl (lv_at hl 0 rfl) ?_
  refine va_get (D := D) (ci := 9) (v := .ref p_route) (C := RX9) (T := TX9) (N := 13) hx hb hts inX9 hown hK hP 0 rfl rfl 8 (by decide) (hts _ b_489) (fun _ h9 => h9) rfl dX9_step_1 ?_
  refine va_get (D := D) (ci := 5) (v := .int 0) (C := RX5) (T := TX5) (N := 17) hx hb hts inX5 hown hK hP 1 rfl rfl 3 (by decide) (hts _ b_424) (fun _ h9 => h9) rfl dX9_step_4 ?_
  refine lv_if_eq (tgt := 37) hx hb dX9_step_7 (by decide) (fun _ => ?_) (fun h9 => absurd (by decide) h9)
  refine lv_iconst (v := -1) hx hb dX9_step_37 (by decide) ?_
  exact r_i hx hb hr hlocks rfl dX9_step_38
set_option maxRecDepth 20000 in
set_option maxHeartbeats 2000000 in
theorem c_relaxed (l : Launch) (D : va_G) (E : Nat → ClassId) (a : Nat) (p_tape : Nat) (p_graph : Nat) (p_reader : Nat) (p_ahead : Nat) (p_back : Nat) (p_trail : Nat) (p_landmarks : Nat) (p_hierarchy : Nat) (p_route : Nat) (p_scratch : Nat) (p_toldRow : Nat) (o_relaxedFrom : Nat) (o_relaxedTo : Nat) (o_walk : Nat) (o_upLengths : Nat) (o_upCounts : Nat) (o_downLengths : Nat) (o_downCounts : Nat) (o_chain : Nat) (k : Int32) (w : Int32) : KR l yX9_relaxed cX9_relaxed 3 (some .int) 12 400 D E [.ref a, .int k, .int w] [(a, .inr (9, [.ref p_tape, .ref p_graph, .ref p_reader, .ref p_ahead, .ref p_back, .ref p_trail, .ref p_landmarks, .ref p_hierarchy, .ref p_route, .ref p_scratch, .ref p_toldRow, .int 0, .int 0])), (p_route, .inr (5, [.ref o_relaxedFrom, .ref o_relaxedTo, .ref o_walk, .int 0, .int 0, .int 0, .int 0, .int 0, .int 0, .int 0, .int (-1), .long 0, .ref o_upLengths, .ref o_upCounts, .ref o_downLengths, .ref o_downCounts, .ref o_chain]))] (some (.int (-1))) := by
  refine KR.of (by decide) (Nat.le_of_ble_eq_true rfl) ?_
  intro p e s m below meth c ls hx hb hr hts hml hown hlocks hK hP hl
  have hown : s.vm.findClass RX9 = some m.cls := hown
  have hl : lv_has ls 3 [(0, .ref a), (1, .int k), (2, .int w)] := hl
  refine lv_aload_n hx hb dX9_relaxed_0 rfl (lv_at hl 0 rfl) ?_
  refine va_get (D := D) (ci := 9) (v := .ref p_route) (C := RX9) (T := TX9) (N := 13) hx hb hts inX9 hown hK hP 0 rfl rfl 8 (by decide) (hts _ b_489) (fun _ h9 => h9) rfl dX9_relaxed_1 ?_
  refine va_get (D := D) (ci := 5) (v := .int 0) (C := RX5) (T := TX5) (N := 17) hx hb hts inX5 hown hK hP 1 rfl rfl 3 (by decide) (hts _ b_424) (fun _ h9 => h9) rfl dX9_relaxed_4 ?_
  refine lv_if_eq (tgt := 25) hx hb dX9_relaxed_7 (by decide) (fun _ => ?_) (fun h9 => absurd (by decide) h9)
  refine lv_iconst (v := -1) hx hb dX9_relaxed_25 (by decide) ?_
  exact r_i hx hb hr hlocks rfl dX9_relaxed_26
set_option maxRecDepth 20000 in
set_option maxHeartbeats 2000000 in
theorem c_reached (l : Launch) (D : va_G) (E : Nat → ClassId) (a : Nat) (p_tape : Nat) (p_graph : Nat) (p_reader : Nat) (p_ahead : Nat) (p_back : Nat) (p_trail : Nat) (p_landmarks : Nat) (p_hierarchy : Nat) (p_route : Nat) (p_scratch : Nat) (p_toldRow : Nat) (g_xs : Nat) (g_ys : Nat) (g_potentials : Nat) (g_tails : Nat) (g_heads : Nat) (g_weights : Nat) (g_net : Nat) (k : Int32) (w : Int32) : KR l yX9_reached cX9_reached 5 (some .int) 25 821 D E [.ref a, .int k, .int w] [(a, .inr (9, [.ref p_tape, .ref p_graph, .ref p_reader, .ref p_ahead, .ref p_back, .ref p_trail, .ref p_landmarks, .ref p_hierarchy, .ref p_route, .ref p_scratch, .ref p_toldRow, .int 0, .int 0])), (p_graph, .inr (0, [.ref g_xs, .ref g_ys, .ref g_potentials, .ref g_tails, .ref g_heads, .ref g_weights, .ref g_net, .int 0, .int 0, .long 0]))] (some (.int (-1))) := by
  refine KR.of (by decide) (Nat.le_of_ble_eq_true rfl) ?_
  intro p e s m below meth c ls hx hb hr hts hml hown hlocks hK hP hl
  have hown : s.vm.findClass RX9 = some m.cls := hown
  have hl : lv_has ls 5 [(0, .ref a), (1, .int k), (2, .int w)] := hl
  refine lv_aload_n hx hb dX9_reached_0 rfl (lv_at hl 0 rfl) ?_
  refine va_get (D := D) (ci := 9) (v := .ref p_graph) (C := RX9) (T := TX9) (N := 13) hx hb hts inX9 hown hK hP 0 rfl rfl 1 (by decide) (hts _ b_482) (fun _ h9 => h9) rfl dX9_reached_1 ?_
  refine lv_iload_n hx hb dX9_reached_4 rfl (lv_at hl 1 rfl) ?_
  refine k_RV (As := [.int k]) (rest := []) (ci := 0) (q0 := 1) ⟨hx, hb, hml, hown, hts⟩ (c_hasNode l D E p_graph g_xs g_ys g_potentials g_tails g_heads g_weights g_net k) b_682 b_683 b_684 b_80 b_685 ⟨rfl, hd_X0_hasNode⟩ ⟨⟨by decide, by decide⟩, by decide, by decide⟩ hK hP [1] rfl rfl rfl rfl hl.1 (Nat.le_of_ble_eq_true rfl) dX9_reached_5 ?_
  refine lv_if_eq (tgt := 15) hx hb dX9_reached_8 (by decide) (fun _ => ?_) (fun h9 => absurd (by decide) h9)
  refine lv_iconst (v := -1) hx hb dX9_reached_15 (by decide) ?_
  exact r_i hx hb hr hlocks rfl dX9_reached_16
set_option maxRecDepth 20000 in
set_option maxHeartbeats 2000000 in
theorem c_total_0 (l : Launch) (D : va_G) (E : Nat → ClassId) (a : Nat) (p_tape : Nat) (p_graph : Nat) (p_reader : Nat) (p_ahead : Nat) (p_back : Nat) (p_trail : Nat) (p_landmarks : Nat) (p_hierarchy : Nat) (p_route : Nat) (p_scratch : Nat) (p_toldRow : Nat) (g_xs : Nat) (g_ys : Nat) (g_potentials : Nat) (g_tails : Nat) (g_heads : Nat) (g_weights : Nat) (g_net : Nat) : KR l yX9_total cX9_total 2 (some .int) 12 400 D E [.ref a, .int 0] [(a, .inr (9, [.ref p_tape, .ref p_graph, .ref p_reader, .ref p_ahead, .ref p_back, .ref p_trail, .ref p_landmarks, .ref p_hierarchy, .ref p_route, .ref p_scratch, .ref p_toldRow, .int 0, .int 0])), (p_graph, .inr (0, [.ref g_xs, .ref g_ys, .ref g_potentials, .ref g_tails, .ref g_heads, .ref g_weights, .ref g_net, .int 0, .int 0, .long 0]))] (some (.int 0)) := by
  refine KR.of (by decide) (Nat.le_of_ble_eq_true rfl) ?_
  intro p e s m below meth c ls hx hb hr hts hml hown hlocks hK hP hl
  have hown : s.vm.findClass RX9 = some m.cls := hown
  have hl : lv_has ls 2 [(0, .ref a), (1, .int 0)] := hl
  refine lv_iload_n hx hb dX9_total_0 rfl (lv_at hl 1 rfl) ?_
  refine lv_tableIn (off := 51) (tgt := 52) hx hb dX9_total_1 (by decide) (by decide) (by decide) (by decide) ?_
  refine lv_aload_n hx hb dX9_total_52 rfl (lv_at hl 0 rfl) ?_
  refine va_get (D := D) (ci := 9) (v := .ref p_graph) (C := RX9) (T := TX9) (N := 13) hx hb hts inX9 hown hK hP 0 rfl rfl 1 (by decide) (hts _ b_482) (fun _ h9 => h9) rfl dX9_total_53 ?_
  refine va_get (D := D) (ci := 0) (v := .int 0) (C := RX0) (T := TX0) (N := 10) hx hb hts inX0 hown hK hP 1 rfl rfl 7 (by decide) (hts _ b_197) (fun _ h9 => h9) rfl dX9_total_56 ?_
  exact r_i hx hb hr hlocks rfl dX9_total_59
set_option maxRecDepth 20000 in
set_option maxHeartbeats 2000000 in
theorem c_total_1 (l : Launch) (D : va_G) (E : Nat → ClassId) (a : Nat) (p_tape : Nat) (p_graph : Nat) (p_reader : Nat) (p_ahead : Nat) (p_back : Nat) (p_trail : Nat) (p_landmarks : Nat) (p_hierarchy : Nat) (p_route : Nat) (p_scratch : Nat) (p_toldRow : Nat) (g_xs : Nat) (g_ys : Nat) (g_potentials : Nat) (g_tails : Nat) (g_heads : Nat) (g_weights : Nat) (g_net : Nat) : KR l yX9_total cX9_total 2 (some .int) 12 400 D E [.ref a, .int 1] [(a, .inr (9, [.ref p_tape, .ref p_graph, .ref p_reader, .ref p_ahead, .ref p_back, .ref p_trail, .ref p_landmarks, .ref p_hierarchy, .ref p_route, .ref p_scratch, .ref p_toldRow, .int 0, .int 0])), (p_graph, .inr (0, [.ref g_xs, .ref g_ys, .ref g_potentials, .ref g_tails, .ref g_heads, .ref g_weights, .ref g_net, .int 0, .int 0, .long 0]))] (some (.int 0)) := by
  refine KR.of (by decide) (Nat.le_of_ble_eq_true rfl) ?_
  intro p e s m below meth c ls hx hb hr hts hml hown hlocks hK hP hl
  have hown : s.vm.findClass RX9 = some m.cls := hown
  have hl : lv_has ls 2 [(0, .ref a), (1, .int 1)] := hl
  refine lv_iload_n hx hb dX9_total_0 rfl (lv_at hl 1 rfl) ?_
  refine lv_tableIn (off := 59) (tgt := 60) hx hb dX9_total_1 (by decide) (by decide) (by decide) (by decide) ?_
  refine lv_aload_n hx hb dX9_total_60 rfl (lv_at hl 0 rfl) ?_
  refine va_get (D := D) (ci := 9) (v := .ref p_graph) (C := RX9) (T := TX9) (N := 13) hx hb hts inX9 hown hK hP 0 rfl rfl 1 (by decide) (hts _ b_482) (fun _ h9 => h9) rfl dX9_total_61 ?_
  refine va_get (D := D) (ci := 0) (v := .int 0) (C := RX0) (T := TX0) (N := 10) hx hb hts inX0 hown hK hP 1 rfl rfl 8 (by decide) (hts _ b_200) (fun _ h9 => h9) rfl dX9_total_64 ?_
  exact r_i hx hb hr hlocks rfl dX9_total_67
set_option maxRecDepth 20000 in
set_option maxHeartbeats 2000000 in
theorem c_total_2 (l : Launch) (D : va_G) (E : Nat → ClassId) (a : Nat) (p_tape : Nat) (p_graph : Nat) (p_reader : Nat) (p_ahead : Nat) (p_back : Nat) (p_trail : Nat) (p_landmarks : Nat) (p_hierarchy : Nat) (p_route : Nat) (p_scratch : Nat) (p_toldRow : Nat) (t_bytes : Nat) : KR l yX9_total cX9_total 2 (some .int) 12 400 D E [.ref a, .int 2] [(a, .inr (9, [.ref p_tape, .ref p_graph, .ref p_reader, .ref p_ahead, .ref p_back, .ref p_trail, .ref p_landmarks, .ref p_hierarchy, .ref p_route, .ref p_scratch, .ref p_toldRow, .int 0, .int 0])), (p_tape, .inr (6, [.ref t_bytes, .int 0]))] (some (.int 0)) := by
  refine KR.of (by decide) (Nat.le_of_ble_eq_true rfl) ?_
  intro p e s m below meth c ls hx hb hr hts hml hown hlocks hK hP hl
  have hown : s.vm.findClass RX9 = some m.cls := hown
  have hl : lv_has ls 2 [(0, .ref a), (1, .int 2)] := hl
  refine lv_iload_n hx hb dX9_total_0 rfl (lv_at hl 1 rfl) ?_
  refine lv_tableIn (off := 67) (tgt := 68) hx hb dX9_total_1 (by decide) (by decide) (by decide) (by decide) ?_
  refine lv_aload_n hx hb dX9_total_68 rfl (lv_at hl 0 rfl) ?_
  refine va_get (D := D) (ci := 9) (v := .ref p_tape) (C := RX9) (T := TX9) (N := 13) hx hb hts inX9 hown hK hP 0 rfl rfl 0 (by decide) (hts _ b_481) (fun _ h9 => h9) rfl dX9_total_69 ?_
  refine va_get (D := D) (ci := 6) (v := .int 0) (C := RX6) (T := TX6) (N := 2) hx hb hts inX6 hown hK hP 1 rfl rfl 1 (by decide) (hts _ b_121) (fun _ h9 => h9) rfl dX9_total_72 ?_
  exact r_i hx hb hr hlocks rfl dX9_total_75
set_option maxRecDepth 20000 in
set_option maxHeartbeats 2000000 in
theorem c_total_3 (l : Launch) (D : va_G) (E : Nat → ClassId) (a : Nat) (p_tape : Nat) (p_graph : Nat) (p_reader : Nat) (p_ahead : Nat) (p_back : Nat) (p_trail : Nat) (p_landmarks : Nat) (p_hierarchy : Nat) (p_route : Nat) (p_scratch : Nat) (p_toldRow : Nat) : KR l yX9_total cX9_total 2 (some .int) 12 400 D E [.ref a, .int 3] [(a, .inr (9, [.ref p_tape, .ref p_graph, .ref p_reader, .ref p_ahead, .ref p_back, .ref p_trail, .ref p_landmarks, .ref p_hierarchy, .ref p_route, .ref p_scratch, .ref p_toldRow, .int 0, .int 0]))] (some (.int 0)) := by
  refine KR.of (by decide) (Nat.le_of_ble_eq_true rfl) ?_
  intro p e s m below meth c ls hx hb hr hts hml hown hlocks hK hP hl
  have hown : s.vm.findClass RX9 = some m.cls := hown
  have hl : lv_has ls 2 [(0, .ref a), (1, .int 3)] := hl
  refine lv_iload_n hx hb dX9_total_0 rfl (lv_at hl 1 rfl) ?_
  refine lv_tableIn (off := 75) (tgt := 76) hx hb dX9_total_1 (by decide) (by decide) (by decide) (by decide) ?_
  refine lv_aload_n hx hb dX9_total_76 rfl (lv_at hl 0 rfl) ?_
  refine va_get (D := D) (ci := 9) (v := .int 0) (C := RX9) (T := TX9) (N := 13) hx hb hts inX9 hown hK hP 0 rfl rfl 12 (by decide) (hts _ b_493) (fun _ h9 => h9) rfl dX9_total_77 ?_
  exact r_i hx hb hr hlocks rfl dX9_total_80
set_option maxRecDepth 20000 in
set_option maxHeartbeats 2000000 in
theorem c_total_4 (l : Launch) (D : va_G) (E : Nat → ClassId) (a : Nat) (p_tape : Nat) (p_graph : Nat) (p_reader : Nat) (p_ahead : Nat) (p_back : Nat) (p_trail : Nat) (p_landmarks : Nat) (p_hierarchy : Nat) (p_route : Nat) (p_scratch : Nat) (p_toldRow : Nat) (m_nodes : Nat) (m_potentials : Nat) (m_from : Nat) (m_into : Nat) : KR l yX9_total cX9_total 2 (some .int) 12 400 D E [.ref a, .int 4] [(a, .inr (9, [.ref p_tape, .ref p_graph, .ref p_reader, .ref p_ahead, .ref p_back, .ref p_trail, .ref p_landmarks, .ref p_hierarchy, .ref p_route, .ref p_scratch, .ref p_toldRow, .int 0, .int 0])), (p_landmarks, .inr (2, [.ref m_nodes, .ref m_potentials, .int 0, .ref m_from, .ref m_into]))] (some (.int 0)) := by
  refine KR.of (by decide) (Nat.le_of_ble_eq_true rfl) ?_
  intro p e s m below meth c ls hx hb hr hts hml hown hlocks hK hP hl
  have hown : s.vm.findClass RX9 = some m.cls := hown
  have hl : lv_has ls 2 [(0, .ref a), (1, .int 4)] := hl
  refine lv_iload_n hx hb dX9_total_0 rfl (lv_at hl 1 rfl) ?_
  refine lv_tableIn (off := 80) (tgt := 81) hx hb dX9_total_1 (by decide) (by decide) (by decide) (by decide) ?_
  refine lv_aload_n hx hb dX9_total_81 rfl (lv_at hl 0 rfl) ?_
  refine va_get (D := D) (ci := 9) (v := .ref p_landmarks) (C := RX9) (T := TX9) (N := 13) hx hb hts inX9 hown hK hP 0 rfl rfl 6 (by decide) (hts _ b_487) (fun _ h9 => h9) rfl dX9_total_82 ?_
  refine va_get (D := D) (ci := 2) (v := .int 0) (C := RX2) (T := TX2) (N := 5) hx hb hts inX2 hown hK hP 1 rfl rfl 2 (by decide) (hts _ b_332) (fun _ h9 => h9) rfl dX9_total_85 ?_
  exact r_i hx hb hr hlocks rfl dX9_total_88
set_option maxRecDepth 20000 in
set_option maxHeartbeats 2000000 in
theorem c_total_5 (l : Launch) (D : va_G) (E : Nat → ClassId) (a : Nat) (p_tape : Nat) (p_graph : Nat) (p_reader : Nat) (p_ahead : Nat) (p_back : Nat) (p_trail : Nat) (p_landmarks : Nat) (p_hierarchy : Nat) (p_route : Nat) (p_scratch : Nat) (p_toldRow : Nat) : KR l yX9_total cX9_total 2 (some .int) 12 400 D E [.ref a, .int 5] [(a, .inr (9, [.ref p_tape, .ref p_graph, .ref p_reader, .ref p_ahead, .ref p_back, .ref p_trail, .ref p_landmarks, .ref p_hierarchy, .ref p_route, .ref p_scratch, .ref p_toldRow, .int 0, .int 0]))] (some (.int 0)) := by
  refine KR.of (by decide) (Nat.le_of_ble_eq_true rfl) ?_
  intro p e s m below meth c ls hx hb hr hts hml hown hlocks hK hP hl
  have hown : s.vm.findClass RX9 = some m.cls := hown
  have hl : lv_has ls 2 [(0, .ref a), (1, .int 5)] := hl
  refine lv_iload_n hx hb dX9_total_0 rfl (lv_at hl 1 rfl) ?_
  refine lv_tableIn (off := 88) (tgt := 89) hx hb dX9_total_1 (by decide) (by decide) (by decide) (by decide) ?_
  refine lv_aload_n hx hb dX9_total_89 rfl (lv_at hl 0 rfl) ?_
  refine va_get (D := D) (ci := 9) (v := .int 0) (C := RX9) (T := TX9) (N := 13) hx hb hts inX9 hown hK hP 0 rfl rfl 11 (by decide) (hts _ b_492) (fun _ h9 => h9) rfl dX9_total_90 ?_
  exact r_i hx hb hr hlocks rfl dX9_total_93
set_option maxRecDepth 20000 in
set_option maxHeartbeats 2000000 in
theorem c_total_6 (l : Launch) (D : va_G) (E : Nat → ClassId) (a : Nat) (p_tape : Nat) (p_graph : Nat) (p_reader : Nat) (p_ahead : Nat) (p_back : Nat) (p_trail : Nat) (p_landmarks : Nat) (p_hierarchy : Nat) (p_route : Nat) (p_scratch : Nat) (p_toldRow : Nat) (h_net : Nat) (h_ranks : Nat) (h_row : Nat) (h_witnesses : Nat) (h_contractedBeside : Nat) (h_wantedFrom : Nat) (h_wantedTo : Nat) : KR l yX9_total cX9_total 2 (some .int) 12 400 D E [.ref a, .int 6] [(a, .inr (9, [.ref p_tape, .ref p_graph, .ref p_reader, .ref p_ahead, .ref p_back, .ref p_trail, .ref p_landmarks, .ref p_hierarchy, .ref p_route, .ref p_scratch, .ref p_toldRow, .int 0, .int 0])), (p_hierarchy, .inr (1, [.ref h_net, .ref h_ranks, .ref h_row, .int 0, .int 0, .int 0, .int 4, .int 2, .int 1, .ref h_witnesses, .ref h_contractedBeside, .ref h_wantedFrom, .ref h_wantedTo, .int 0]))] (some (.int 0)) := by
  refine KR.of (by decide) (Nat.le_of_ble_eq_true rfl) ?_
  intro p e s m below meth c ls hx hb hr hts hml hown hlocks hK hP hl
  have hown : s.vm.findClass RX9 = some m.cls := hown
  have hl : lv_has ls 2 [(0, .ref a), (1, .int 6)] := hl
  refine lv_iload_n hx hb dX9_total_0 rfl (lv_at hl 1 rfl) ?_
  refine lv_tableIn (off := 93) (tgt := 94) hx hb dX9_total_1 (by decide) (by decide) (by decide) (by decide) ?_
  refine lv_aload_n hx hb dX9_total_94 rfl (lv_at hl 0 rfl) ?_
  refine va_get (D := D) (ci := 9) (v := .ref p_hierarchy) (C := RX9) (T := TX9) (N := 13) hx hb hts inX9 hown hK hP 0 rfl rfl 7 (by decide) (hts _ b_488) (fun _ h9 => h9) rfl dX9_total_95 ?_
  refine va_get (D := D) (ci := 1) (v := .int 0) (C := RX1) (T := TX1) (N := 14) hx hb hts inX1 hown hK hP 1 rfl rfl 3 (by decide) (hts _ b_365) (fun _ h9 => h9) rfl dX9_total_98 ?_
  refine lv_if_eq (tgt := 118) hx hb dX9_total_101 (by decide) (fun _ => ?_) (fun h9 => absurd (by decide) h9)
  refine lv_iconst (v := 0) hx hb dX9_total_118 (by decide) ?_
  exact r_i hx hb hr hlocks rfl dX9_total_119
set_option maxRecDepth 20000 in
set_option maxHeartbeats 2000000 in
theorem c_total_7 (l : Launch) (D : va_G) (E : Nat → ClassId) (a : Nat) (p_tape : Nat) (p_graph : Nat) (p_reader : Nat) (p_ahead : Nat) (p_back : Nat) (p_trail : Nat) (p_landmarks : Nat) (p_hierarchy : Nat) (p_route : Nat) (p_scratch : Nat) (p_toldRow : Nat) (h_net : Nat) (h_ranks : Nat) (h_row : Nat) (h_witnesses : Nat) (h_contractedBeside : Nat) (h_wantedFrom : Nat) (h_wantedTo : Nat) : KR l yX9_total cX9_total 2 (some .int) 12 400 D E [.ref a, .int 7] [(a, .inr (9, [.ref p_tape, .ref p_graph, .ref p_reader, .ref p_ahead, .ref p_back, .ref p_trail, .ref p_landmarks, .ref p_hierarchy, .ref p_route, .ref p_scratch, .ref p_toldRow, .int 0, .int 0])), (p_hierarchy, .inr (1, [.ref h_net, .ref h_ranks, .ref h_row, .int 0, .int 0, .int 0, .int 4, .int 2, .int 1, .ref h_witnesses, .ref h_contractedBeside, .ref h_wantedFrom, .ref h_wantedTo, .int 0]))] (some (.int 0)) := by
  refine KR.of (by decide) (Nat.le_of_ble_eq_true rfl) ?_
  intro p e s m below meth c ls hx hb hr hts hml hown hlocks hK hP hl
  have hown : s.vm.findClass RX9 = some m.cls := hown
  have hl : lv_has ls 2 [(0, .ref a), (1, .int 7)] := hl
  refine lv_iload_n hx hb dX9_total_0 rfl (lv_at hl 1 rfl) ?_
  refine lv_tableIn (off := 119) (tgt := 120) hx hb dX9_total_1 (by decide) (by decide) (by decide) (by decide) ?_
  refine lv_aload_n hx hb dX9_total_120 rfl (lv_at hl 0 rfl) ?_
  refine va_get (D := D) (ci := 9) (v := .ref p_hierarchy) (C := RX9) (T := TX9) (N := 13) hx hb hts inX9 hown hK hP 0 rfl rfl 7 (by decide) (hts _ b_488) (fun _ h9 => h9) rfl dX9_total_121 ?_
  refine va_get (D := D) (ci := 1) (v := .int 0) (C := RX1) (T := TX1) (N := 14) hx hb hts inX1 hown hK hP 1 rfl rfl 3 (by decide) (hts _ b_365) (fun _ h9 => h9) rfl dX9_total_124 ?_
  refine lv_if_eq (tgt := 144) hx hb dX9_total_127 (by decide) (fun _ => ?_) (fun h9 => absurd (by decide) h9)
  refine lv_iconst (v := 0) hx hb dX9_total_144 (by decide) ?_
  exact r_i hx hb hr hlocks rfl dX9_total_145
set_option maxRecDepth 20000 in
set_option maxHeartbeats 2000000 in
theorem c_total_8 (l : Launch) (D : va_G) (E : Nat → ClassId) (a : Nat) (p_tape : Nat) (p_graph : Nat) (p_reader : Nat) (p_ahead : Nat) (p_back : Nat) (p_trail : Nat) (p_landmarks : Nat) (p_hierarchy : Nat) (p_route : Nat) (p_scratch : Nat) (p_toldRow : Nat) (r_nodes : Nat) (r_lengths : Nat) (r_counts : Nat) (r_seen : Nat) : KR l yX9_total cX9_total 2 (some .int) 12 400 D E [.ref a, .int 8] [(a, .inr (9, [.ref p_tape, .ref p_graph, .ref p_reader, .ref p_ahead, .ref p_back, .ref p_trail, .ref p_landmarks, .ref p_hierarchy, .ref p_route, .ref p_scratch, .ref p_toldRow, .int 0, .int 0])), (p_trail, .inr (7, [.ref r_nodes, .ref r_lengths, .ref r_counts, .int 0, .ref r_seen]))] (some (.int 0)) := by
  refine KR.of (by decide) (Nat.le_of_ble_eq_true rfl) ?_
  intro p e s m below meth c ls hx hb hr hts hml hown hlocks hK hP hl
  have hown : s.vm.findClass RX9 = some m.cls := hown
  have hl : lv_has ls 2 [(0, .ref a), (1, .int 8)] := hl
  refine lv_iload_n hx hb dX9_total_0 rfl (lv_at hl 1 rfl) ?_
  refine lv_tableIn (off := 145) (tgt := 146) hx hb dX9_total_1 (by decide) (by decide) (by decide) (by decide) ?_
  refine lv_aload_n hx hb dX9_total_146 rfl (lv_at hl 0 rfl) ?_
  refine va_get (D := D) (ci := 9) (v := .ref p_trail) (C := RX9) (T := TX9) (N := 13) hx hb hts inX9 hown hK hP 0 rfl rfl 5 (by decide) (hts _ b_486) (fun _ h9 => h9) rfl dX9_total_147 ?_
  refine va_get (D := D) (ci := 7) (v := .int 0) (C := RX7) (T := TX7) (N := 5) hx hb hts inX7 hown hK hP 1 rfl rfl 3 (by decide) (hts _ b_306) (fun _ h9 => h9) rfl dX9_total_150 ?_
  exact r_i hx hb hr hlocks rfl dX9_total_153
set_option maxRecDepth 20000 in
set_option maxHeartbeats 2000000 in
theorem c_total_out (l : Launch) (D : va_G) (E : Nat → ClassId) (a : Nat) (p_tape : Nat) (p_graph : Nat) (p_reader : Nat) (p_ahead : Nat) (p_back : Nat) (p_trail : Nat) (p_landmarks : Nat) (p_hierarchy : Nat) (p_route : Nat) (p_scratch : Nat) (p_toldRow : Nat) (k : Int32) (h : k.toInt < 0 ∨ 8 < k.toInt) : KR l yX9_total cX9_total 2 (some .int) 12 400 D E [.ref a, .int k] [(a, .inr (9, [.ref p_tape, .ref p_graph, .ref p_reader, .ref p_ahead, .ref p_back, .ref p_trail, .ref p_landmarks, .ref p_hierarchy, .ref p_route, .ref p_scratch, .ref p_toldRow, .int 0, .int 0]))] (some (.int (-1))) := by
  refine KR.of (by decide) (Nat.le_of_ble_eq_true rfl) ?_
  intro p e s m below meth c ls hx hb hr hts hml hown hlocks hK hP hl
  have hown : s.vm.findClass RX9 = some m.cls := hown
  have hl : lv_has ls 2 [(0, .ref a), (1, .int k)] := hl
  refine lv_iload_n hx hb dX9_total_0 rfl (lv_at hl 1 rfl) ?_
  refine lv_tableOut (tgt := 154) hx hb dX9_total_1 (h) (by decide) ?_
  refine lv_iconst (v := -1) hx hb dX9_total_154 (by decide) ?_
  exact r_i hx hb hr hlocks rfl dX9_total_155
set_option maxRecDepth 20000 in
set_option maxHeartbeats 2000000 in
theorem c_isWithin_1 (l : Launch) (D : va_G) (E : Nat → ClassId) (k : Int32) (h : (-1000000 : Int32) ≤ k ∧ k ≤ 1000000) : KR l yX9_isWithin cX9_isWithin 2 (some .boolean) 12 400 D E [.int k, .int 1000000] [] (some (.int 1)) := by
  refine KR.of (by decide) (Nat.le_of_ble_eq_true rfl) ?_
  intro p e s m below meth c ls hx hb hr hts hml hown hlocks hK hP hl
  have hown : s.vm.findClass RX9 = some m.cls := hown
  have hl : lv_has ls 2 [(0, .int k), (1, .int 1000000)] := hl
  refine lv_iload_n hx hb dX9_isWithin_0 rfl (lv_at hl 0 rfl) ?_
  refine lv_iload_n hx hb dX9_isWithin_1 rfl (lv_at hl 1 rfl) ?_
  refine lv_ineg hx hb dX9_isWithin_2 ?_
  refine k_ti (y := (-1000000)) (by decide) ?_
  refine lv_icmp_lt (tgt := 15) hx hb dX9_isWithin_3 (by decide) (fun h9 => absurd h9 (Int32.not_lt.mpr h.1)) (fun _ => ?_)
  refine lv_iload_n hx hb dX9_isWithin_6 rfl (lv_at hl 0 rfl) ?_
  refine lv_iload_n hx hb dX9_isWithin_7 rfl (lv_at hl 1 rfl) ?_
  refine lv_icmp_gt (tgt := 15) hx hb dX9_isWithin_8 (by decide) (fun h9 => absurd h9 (Int32.not_lt.mpr h.2)) (fun _ => ?_)
  refine lv_iconst (v := 1) hx hb dX9_isWithin_11 (by decide) ?_
  refine lv_goto (tgt := 16) hx hb dX9_isWithin_12 (by decide) ?_
  exact r_z hx hb hr hlocks rfl rfl dX9_isWithin_16
set_option maxRecDepth 20000 in
set_option maxHeartbeats 2000000 in
theorem c_isWithin_0 (l : Launch) (D : va_G) (E : Nat → ClassId) (k : Int32) (h : ¬ ((-1000000 : Int32) ≤ k ∧ k ≤ 1000000)) : KR l yX9_isWithin cX9_isWithin 2 (some .boolean) 12 400 D E [.int k, .int 1000000] [] (some (.int 0)) := by
  refine KR.of (by decide) (Nat.le_of_ble_eq_true rfl) ?_
  intro p e s m below meth c ls hx hb hr hts hml hown hlocks hK hP hl
  have hown : s.vm.findClass RX9 = some m.cls := hown
  have hl : lv_has ls 2 [(0, .int k), (1, .int 1000000)] := hl
  refine lv_iload_n hx hb dX9_isWithin_0 rfl (lv_at hl 0 rfl) ?_
  refine lv_iload_n hx hb dX9_isWithin_1 rfl (lv_at hl 1 rfl) ?_
  refine lv_ineg hx hb dX9_isWithin_2 ?_
  refine k_ti (y := (-1000000)) (by decide) ?_
  refine lv_icmp_lt (tgt := 15) hx hb dX9_isWithin_3 (by decide) (fun c1 => ?_) (fun c1 => ?_)
  · refine lv_iconst (v := 0) hx hb dX9_isWithin_15 (by decide) ?_
    exact r_z hx hb hr hlocks rfl rfl dX9_isWithin_16
  · refine lv_iload_n hx hb dX9_isWithin_6 rfl (lv_at hl 0 rfl) ?_
    refine lv_iload_n hx hb dX9_isWithin_7 rfl (lv_at hl 1 rfl) ?_
    refine lv_icmp_gt (tgt := 15) hx hb dX9_isWithin_8 (by decide) (fun _ => ?_) (fun h9 => absurd (Int32.not_le.mp (fun h8 => h ⟨Int32.not_lt.mp c1, h8⟩)) h9)
    refine lv_iconst (v := 0) hx hb dX9_isWithin_15 (by decide) ?_
    exact r_z hx hb hr hlocks rfl rfl dX9_isWithin_16
set_option maxRecDepth 20000 in
set_option maxHeartbeats 2000000 in
theorem c_isFactor_1 (l : Launch) (D : va_G) (E : Nat → ClassId) (k : Int32) (h : (0 : Int32) ≤ k ∧ k ≤ 9) : KR l yX9_isFactor cX9_isFactor 1 (some .boolean) 12 400 D E [.int k] [] (some (.int 1)) := by
  refine KR.of (by decide) (Nat.le_of_ble_eq_true rfl) ?_
  intro p e s m below meth c ls hx hb hr hts hml hown hlocks hK hP hl
  have hown : s.vm.findClass RX9 = some m.cls := hown
  have hl : lv_has ls 1 [(0, .int k)] := hl
  refine lv_iload_n hx hb dX9_isFactor_0 rfl (lv_at hl 0 rfl) ?_
  refine lv_if_lt (tgt := 14) hx hb dX9_isFactor_1 (by decide) (fun h9 => absurd h9 (Int32.not_lt.mpr h.1)) (fun _ => ?_)
  refine lv_iload_n hx hb dX9_isFactor_4 rfl (lv_at hl 0 rfl) ?_
  refine lv_bipush (v := 9) hx hb dX9_isFactor_5 (by decide) ?_
  refine lv_icmp_gt (tgt := 14) hx hb dX9_isFactor_7 (by decide) (fun h9 => absurd h9 (Int32.not_lt.mpr h.2)) (fun _ => ?_)
  refine lv_iconst (v := 1) hx hb dX9_isFactor_10 (by decide) ?_
  refine lv_goto (tgt := 15) hx hb dX9_isFactor_11 (by decide) ?_
  exact r_z hx hb hr hlocks rfl rfl dX9_isFactor_15
set_option maxRecDepth 20000 in
set_option maxHeartbeats 2000000 in
theorem c_isFactor_0 (l : Launch) (D : va_G) (E : Nat → ClassId) (k : Int32) (h : ¬ ((0 : Int32) ≤ k ∧ k ≤ 9)) : KR l yX9_isFactor cX9_isFactor 1 (some .boolean) 12 400 D E [.int k] [] (some (.int 0)) := by
  refine KR.of (by decide) (Nat.le_of_ble_eq_true rfl) ?_
  intro p e s m below meth c ls hx hb hr hts hml hown hlocks hK hP hl
  have hown : s.vm.findClass RX9 = some m.cls := hown
  have hl : lv_has ls 1 [(0, .int k)] := hl
  refine lv_iload_n hx hb dX9_isFactor_0 rfl (lv_at hl 0 rfl) ?_
  refine lv_if_lt (tgt := 14) hx hb dX9_isFactor_1 (by decide) (fun c1 => ?_) (fun c1 => ?_)
  · refine lv_iconst (v := 0) hx hb dX9_isFactor_14 (by decide) ?_
    exact r_z hx hb hr hlocks rfl rfl dX9_isFactor_15
  · refine lv_iload_n hx hb dX9_isFactor_4 rfl (lv_at hl 0 rfl) ?_
    refine lv_bipush (v := 9) hx hb dX9_isFactor_5 (by decide) ?_
    refine lv_icmp_gt (tgt := 14) hx hb dX9_isFactor_7 (by decide) (fun _ => ?_) (fun h9 => absurd (Int32.not_le.mp (fun h8 => h ⟨Int32.not_lt.mp c1, h8⟩)) h9)
    refine lv_iconst (v := 0) hx hb dX9_isFactor_14 (by decide) ?_
    exact r_z hx hb hr hlocks rfl rfl dX9_isFactor_15
