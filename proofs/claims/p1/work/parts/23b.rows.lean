theorem k_nw_in : ∀ q ∈ k_nw, Cond.methodLinkNest q.1 q.2.1 q.2.2 RX9 ∈ lw_tbl := by decide +kernel
theorem z_tot {x : Int32} (h0 : ¬ x = 0) (h1 : ¬ x = 1) (h2 : ¬ x = 2) (h3 : ¬ x = 3) (h4 : ¬ x = 4) (h5 : ¬ x = 5) (h6 : ¬ x = 6) (h7 : ¬ x = 7) (h8 : ¬ x = 8) : x.toInt < 0 ∨ 8 < x.toInt := by
  have a0 := lv_neT (a := 0) h0 (by decide)
  have a1 := lv_neT (a := 1) h1 (by decide)
  have a2 := lv_neT (a := 2) h2 (by decide)
  have a3 := lv_neT (a := 3) h3 (by decide)
  have a4 := lv_neT (a := 4) h4 (by decide)
  have a5 := lv_neT (a := 5) h5 (by decide)
  have a6 := lv_neT (a := 6) h6 (by decide)
  have a7 := lv_neT (a := 7) h7 (by decide)
  have a8 := lv_neT (a := 8) h8 (by decide)
  omega
theorem k_arr {s : State} {args : Array Value} {ty : FieldType} (hp : refKind ty = false) (h : (Cond.arrayClass ty).before args s = true) : ∃ cA : ClassId, ArrOfT s cA ty ∧ va_RA s cA ty := by
  obtain ⟨cA, kA, comp, h1, h2, h3⟩ := Cond.arrayClass_spec (args := args) (first := s) (o := none) (s := s) (idx := []) h
  refine ⟨cA, fun n z => ⟨fun k h => (by cases h), kA, h2, comp, h3⟩, ?_⟩
  cases ty with
  | object _ => cases hp
  | array _ => cases hp
  | _ => exact h1
theorem k_str {s : State} {args : Array Value} {i : Nat} {tx : String} (h1 : (Cond.stringRef RX9 i tx).before args s = true) (h2 : (Cond.exactly (.string RX9 i) "java/lang/String").before args s = true) : ∃ q, vk_R RX9 i tx q s := by
  obtain ⟨a, c, cA, kA, q1, -⟩ := Cond.exactly_spec (args := args) (first := s) (o := none) (s := s) (idx := []) (t := .string RX9 i) (cls := "java/lang/String") h2
  exact ⟨a, vk_R.of h1 q1⟩
/-- what the start gives: the classes, the rows' classes, the texts, the statics -/
theorem law_start {s : State} {b : Nat} (hts0 : ∀ w ∈ lw_tbl, w.before #[Value.ref b] s = true) (hgv : (Jvm.Cond.and given_1 narrow_1).before #[Value.ref b] s = true) :
    ∃ (D : va_G) (E : Nat → ClassId) (sa : Nat → Nat), va_K D k_cl (k_tys E) s ∧ k_Z sa (fun q => s.heap.size ≤ q) s s.heap := by
  have hts : ∀ w ∈ TB, w.before #[Value.ref b] s = true := fun w h => hts0 w (tb_tbl h)
  have hs := flat_of_before _ hgv
  obtain ⟨d0, i0, h0⟩ := u_known (C := RX0) (T := TX0) (N := 10) (n := 10) hts inX0 (hts _ b_130)
  obtain ⟨d1, i1, h1⟩ := u_known (C := RX1) (T := TX1) (N := 14) (n := 14) hts inX1 (hts _ b_347)
  obtain ⟨d2, i2, h2⟩ := u_known (C := RX2) (T := TX2) (N := 5) (n := 5) hts inX2 (hts _ b_320)
  obtain ⟨d3, i3, h3⟩ := u_known (C := RX3) (T := TX3) (N := 6) (n := 6) hts inX3 (hts _ b_136)
  obtain ⟨d4, i4, h4⟩ := u_known (C := RX4) (T := TX4) (N := 9) (n := 9) hts inX4 (hts _ b_226)
  obtain ⟨d5, i5, h5⟩ := u_known (C := RX5) (T := TX5) (N := 17) (n := 17) hts inX5 (hts _ b_412)
  obtain ⟨d6, i6, h6⟩ := u_known (C := RX6) (T := TX6) (N := 2) (n := 2) hts inX6 (hts _ b_113)
  obtain ⟨d7, i7, h7⟩ := u_known (C := RX7) (T := TX7) (N := 5) (n := 5) hts inX7 (hts _ b_294)
  obtain ⟨d8, i8, h8⟩ := u_known (C := RX8) (T := TX8) (N := 5) (n := 5) hts inX8 (hts _ b_264)
  obtain ⟨d9, i9, h9⟩ := u_known (C := RX9) (T := TX9) (N := 13) (n := 13) hts inX9 (hts _ b_105)
  obtain ⟨d10, i10, h10⟩ := u_known (C := RX10) (T := TX10) (N := 81) (n := 81) hts inX10 (hts _ b_1309)
  obtain ⟨e0, hE0⟩ := k_arr (ty := .int) rfl (hts _ b_178)
  obtain ⟨e1, hE1⟩ := k_arr (ty := .long) rfl (hts _ b_179)
  obtain ⟨e2, hE2⟩ := k_arr (ty := .byte) rfl (hts _ b_128)
  obtain ⟨e3, hE3⟩ := k_arr (ty := .boolean) rfl (hts _ b_180)
  obtain ⟨s0, hs0⟩ := k_str (i := 388) (tx := "no such node") (hts0 _ (List.mem_of_getElem? (i := 992) (by decide +kernel))) (hs _ (by decide +kernel))
  obtain ⟨s1, hs1⟩ := k_str (i := 168) (tx := "no such arc") (hts0 _ (List.mem_of_getElem? (i := 1035) (by decide +kernel))) (hs _ (by decide +kernel))
  obtain ⟨s2, hs2⟩ := k_str (i := 103) (tx := "the tape has not so many bytes") (hts0 _ (List.mem_of_getElem? (i := 949) (by decide +kernel))) (hs _ (by decide +kernel))
  obtain ⟨s3, hs3⟩ := k_str (i := 137) (tx := "the place is beyond the plane") (hts0 _ (List.mem_of_getElem? (i := 967) (by decide +kernel))) (hs _ (by decide +kernel))
  refine ⟨(fun k => [d0, d1, d2, d3, d4, d5, d6, d7, d8, d9, d10].getD k d0, fun k => [i0, i1, i2, i3, i4, i5, i6, i7, i8, i9, i10].getD k i0), fun k => [e0, e1, e2, e3].getD k e0, fun k => [s0, s1, s2, s3].getD k s0, ⟨?_, ?_⟩, ?_, ⟨hs0, hs1, hs2, hs3⟩, ?_, ?_, ?_⟩
  · intro k q hq
    match k, hq with
    | 0, hq => cases hq; exact h0
    | 1, hq => cases hq; exact h1
    | 2, hq => cases hq; exact h2
    | 3, hq => cases hq; exact h3
    | 4, hq => cases hq; exact h4
    | 5, hq => cases hq; exact h5
    | 6, hq => cases hq; exact h6
    | 7, hq => cases hq; exact h7
    | 8, hq => cases hq; exact h8
    | 9, hq => cases hq; exact h9
    | 10, hq => cases hq; exact h10
    | k + 11, hq => simp [k_cl] at hq
  · intro k q hq
    match k, hq with
    | 0, hq => cases hq; exact hE0
    | 1, hq => cases hq; exact hE1
    | 2, hq => cases hq; exact hE2
    | 3, hq => cases hq; exact hE3
    | k + 4, hq => simp [k_tys] at hq
  · exact fun q hq => va_Nw.of rfl (hts0 _ (k_nw_in q hq))
  · exact vx_Zqof (hts0 _ (List.mem_of_getElem? (i := 886) (by decide +kernel))) (hts0 _ (List.mem_of_getElem? (i := 89) (by decide +kernel))) (hs _ (by decide +kernel)) (fun a h h2 => Nat.not_le.mpr h h2)
  · exact vx_Zqof (hts0 _ (List.mem_of_getElem? (i := 888) (by decide +kernel))) (hts0 _ (List.mem_of_getElem? (i := 89) (by decide +kernel))) (hs _ (by decide +kernel)) (fun a h h2 => Nat.not_le.mpr h h2)
  · exact ⟨va_Nw.of rfl (hts0 _ (List.mem_of_getElem? (i := 985) (by decide +kernel))), va_Nw.of rfl (hts0 _ (List.mem_of_getElem? (i := 942) (by decide +kernel))), va_Nw.of rfl (hts0 _ (List.mem_of_getElem? (i := 863) (by decide +kernel))), va_Nw.of rfl (hts0 _ (List.mem_of_getElem? (i := 865) (by decide +kernel))), va_Nw.of rfl (hts0 _ (List.mem_of_getElem? (i := 867) (by decide +kernel)))⟩

