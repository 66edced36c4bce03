theorem dL_law_0 : decode cL_law 0 = .ok (.new 8, 3) := by decide +kernel
theorem dL_law_3 : decode cL_law 3 = .ok (.dup, 1) := by decide +kernel
theorem dL_law_4 : decode cL_law 4 = .ok (.invokespecial 101, 3) := by decide +kernel
theorem dL_law_7 : decode cL_law 7 = .ok (.astore_n 1, 1) := by decide +kernel
theorem dL_law_8 : decode cL_law 8 = .ok (.new 102, 3) := by decide +kernel
theorem dL_law_11 : decode cL_law 11 = .ok (.dup, 1) := by decide +kernel
theorem dL_law_12 : decode cL_law 12 = .ok (.invokespecial 104, 3) := by decide +kernel
theorem dL_law_15 : decode cL_law 15 = .ok (.astore_n 2, 1) := by decide +kernel
theorem dL_law_16 : decode cL_law 16 = .ok (.iconst 1, 1) := by decide +kernel
theorem dL_law_17 : decode cL_law 17 = .ok (.newarray .long, 2) := by decide +kernel
theorem dL_law_19 : decode cL_law 19 = .ok (.astore_n 3, 1) := by decide +kernel
theorem dL_law_20 : decode cL_law 20 = .ok (.iconst 0, 1) := by decide +kernel
theorem dL_law_21 : decode cL_law 21 = .ok (.istore 4, 2) := by decide +kernel
theorem dL_law_32 : decode cL_law 32 = .ok (.aload_n 0, 1) := by decide +kernel
theorem dL_law_33 : decode cL_law 33 = .ok (.iload 4, 2) := by decide +kernel
theorem dL_law_35 : decode cL_law 35 = .ok (.iaload, 1) := by decide +kernel
theorem dL_law_36 : decode cL_law 36 = .ok (.bipush 31, 2) := by decide +kernel
theorem dL_law_38 : decode cL_law 38 = .ok (.iand, 1) := by decide +kernel
theorem dL_law_39 : decode cL_law 39 = .ok (.tableswitch 1530 0 26 #[121, 209, 265, 321, 365, 421, 465, 521, 589, 633, 705, 749, 805, 849, 893, 949, 1005, 1018, 1062, 1129, 1220, 1276, 1300, 1344, 1387, 1443, 1487], 121) := by decide +kernel
set_option maxHeartbeats 4000000 in
set_option maxRecDepth 100000 in
/-- the loop, from its start on two fresh objects -/
theorem lc_first {p : Program} {l : Launch} {e : Env} {s : State} {m : MethodId} {below : List Frame} {meth : Method} {c : Code} (hlt : l.stackTraces = false) {b L : Nat} {xs : Nat → Int32} (hL : L ≤ 3) (C0 : lw_At p s m meth c b L xs) {A : Nat → Prop} (hAA : A = fun q : Nat => s.heap.size ≤ q) {dC : Nat → ClassId} {dI : Nat → Nat → Nat} {tp te : Nat} (hG : gx tp te A s s.heap) {qx rp rt rc r1 r2 r3 r4 a1 a2 a3 a4 a5 a6 a7 t1 t2 t3 t4 t5 t6 t7 c1 c2 c3 c4 c5 c6 c7 qm lp m1 m2 m3 m4 m5 m6 m7 m8 qo : Nat} {k1 k2 k3 k4 k5 k6 k7 ko : ClassId} {H : Heap} {locs : List Loc} (hK : va_K (dC, dI) vwCl [(k1, .int), (k2, .int), (k3, .int), (k4, .long), (k5, .int), (k6, .int), (k7, .int), (ko, .long)] s) (hP : va_P (dC, dI) vwCl [(qx, .inr (8, [.ref rp, .int 0, .ref rt, .ref rc, .int ((-1)), .ref r1, .ref r2, .ref r3, .ref r4, .null, .int 0])), (rp, .inr (6, [.ref a1, .ref a2, .ref a3, .ref a4, .ref a5, .ref a6, .ref a7, .int 0])), (a1, .inl (k1, 1200, .inl (fun _ => 0))), (a2, .inl (k2, 1200, .inl (fun _ => 0))), (a3, .inl (k3, 1200, .inl (fun _ => 0))), (a4, .inl (k4, 1200, .inr (.inl (fun _ => 0)))), (a5, .inl (k5, 1200, .inl (fun _ => 0))), (a6, .inl (k6, 1200, .inl (fun _ => 0))), (a7, .inl (k7, 1200, .inl (fun _ => 0))), (rt, .inr (6, [.ref t1, .ref t2, .ref t3, .ref t4, .ref t5, .ref t6, .ref t7, .int 0])), (rc, .inr (6, [.ref c1, .ref c2, .ref c3, .ref c4, .ref c5, .ref c6, .ref c7, .int 0])), (qm, .inr (17, [.ref lp, .null, .null, .int 0, .int 0, .ref m1, .ref m2, .ref m3, .ref m4, .ref m5, .null, .null, .int 0, .ref m6, .int 0, .int 0, .int 0, .long 0, .null, .ref m7, .ref m8, .int 0, .int 0, .long 0])), (lp, .inr (0, [.int 0, .ref te, .int 0])), (qo, .inl (ko, 1, .inr (.inl (fun _ => 0))))] H) (hD : va_D A [(qx, .inr (8, [.ref rp, .int 0, .ref rt, .ref rc, .int ((-1)), .ref r1, .ref r2, .ref r3, .ref r4, .null, .int 0])), (rp, .inr (6, [.ref a1, .ref a2, .ref a3, .ref a4, .ref a5, .ref a6, .ref a7, .int 0])), (a1, .inl (k1, 1200, .inl (fun _ => 0))), (a2, .inl (k2, 1200, .inl (fun _ => 0))), (a3, .inl (k3, 1200, .inl (fun _ => 0))), (a4, .inl (k4, 1200, .inr (.inl (fun _ => 0)))), (a5, .inl (k5, 1200, .inl (fun _ => 0))), (a6, .inl (k6, 1200, .inl (fun _ => 0))), (a7, .inl (k7, 1200, .inl (fun _ => 0))), (rt, .inr (6, [.ref t1, .ref t2, .ref t3, .ref t4, .ref t5, .ref t6, .ref t7, .int 0])), (rc, .inr (6, [.ref c1, .ref c2, .ref c3, .ref c4, .ref c5, .ref c6, .ref c7, .int 0])), (qm, .inr (17, [.ref lp, .null, .null, .int 0, .int 0, .ref m1, .ref m2, .ref m3, .ref m4, .ref m5, .null, .null, .int 0, .ref m6, .int 0, .int 0, .int 0, .long 0, .null, .ref m7, .ref m8, .int 0, .int 0, .long 0])), (lp, .inr (0, [.int 0, .ref te, .int 0])), (qo, .inl (ko, 1, .inr (.inl (fun _ => 0))))]) (hS : va_S A s.heap H locs) {ls : Array Slot} (hl : lv_has ls 8 [(4, .int 0), (3, .ref qo), (2, .ref qm), (1, .ref qx), (0, .ref b)]) : W p l e room_1 s m #[Value.ref b] below meth c H locs 89 78003 (lw_Z below #[Value.ref b] s) (F0 m 23 ls []) := by
  by_cases h3 : L = 3
  · subst h3
    obtain ⟨hx, hb, hr, hml, hown, hts0, hX, hbl, hlocks, hgv⟩ := id C0
    have hts : ∀ w ∈ z_law, w.before #[Value.ref b] s = true := fun w h => hts0 w (z_law_in w h)
    have hown : s.vm.findClass RL = some m.cls := hown
    have hA : ∀ q : Nat, s.heap.size ≤ q → A q := fun q h => by rw [hAA]; exact h
    have hbA : ¬ A b := by rw [hAA]; exact Nat.not_le.mpr hbl
    refine lv_iload hx hb dL_law_23 (lv_at hl 0 rfl) ?_
    refine lv_aload_n hx hb dL_law_25 rfl (lv_at hl 4 rfl) ?_
    refine va_slen hx hb hX hbl hbA hS dL_law_26 ?_
    refine lv_iconst (v := 3) hx hb dL_law_27 (by decide) ?_
    refine lv_isub hx hb dL_law_28 ?_
    refine lv_icmp_gt (tgt := 1575) hx hb dL_law_29 (by decide) (fun c9 => absurd c9 (by decide)) (fun c9 => ?_)
    refine lv_aload_n hx hb dL_law_32 rfl (lv_at hl 4 rfl) ?_
    refine lv_iload hx hb dL_law_33 (lv_at hl 0 rfl) ?_
    refine va_sld hx hb hX hbl hbA hS (by unfold vp_in; decide +kernel) dL_law_35 ?_
    refine lv_topi (fun x0 ex0 => ?_)
    refine lv_bipush (v := 31) hx hb dL_law_36 (by decide) ?_
    refine lv_iand hx hb dL_law_38 ?_
    refine lv_topi (fun y ey => ?_)
    obtain ⟨k, hk, ek⟩ := nx31 x0
    obtain rfl : y = nI k := ey.trans ek
    obtain ⟨p1, e1⟩ : ∃ z, xs (1 : Int32).toNatClampNeg = z := ⟨_, rfl⟩
    obtain ⟨p2, e2⟩ : ∃ z, xs (2 : Int32).toNatClampNeg = z := ⟨_, rfl⟩
    rcases (show k = 0 ∨ k = 1 ∨ k = 2 ∨ k = 3 ∨ k = 4 ∨ k = 5 ∨ k = 6 ∨ k = 7 ∨ k = 8 ∨ k = 9 ∨ k = 10 ∨ k = 11 ∨ k = 12 ∨ k = 13 ∨ k = 14 ∨ k = 15 ∨ k = 16 ∨ k = 17 ∨ k = 18 ∨ k = 19 ∨ k = 20 ∨ k = 21 ∨ k = 22 ∨ k = 23 ∨ k = 24 ∨ k = 25 ∨ k = 26 ∨ k = 27 ∨ k = 28 ∨ k = 29 ∨ k = 30 ∨ k = 31 by omega) with rfl | rfl | rfl | rfl | rfl | rfl | rfl | rfl | rfl | rfl | rfl | rfl | rfl | rfl | rfl | rfl | rfl | rfl | rfl | rfl | rfl | rfl | rfl | rfl | rfl | rfl | rfl | rfl | rfl | rfl | rfl | rfl
    · refine lv_tableIn (off := 121) (tgt := 160) hx hb dL_law_39 (by decide +kernel) (by decide +kernel) (by decide +kernel) (by decide) ?_
      exact lc_number hlt C0 hAA hG hK hP hD hS hl p1 p2 e1 e2
    · refine lv_tableIn (off := 209) (tgt := 248) hx hb dL_law_39 (by decide +kernel) (by decide +kernel) (by decide +kernel) (by decide) ?_
      rcases nm3 p1 with h1 | ⟨h1, h2, h3⟩ | ⟨h1, h2, h3⟩
      · exact lc_name_neg hlt C0 hAA hG hK hP hD hS hl p1 p2 e1 e2 h1
      · exact lc_name_big hlt C0 hAA hG hK hP hD hS hl p1 p2 e1 e2 h1 h2 h3
      · exact lc_name_ok hlt C0 hAA hG hK hP hD hS hl p1 p2 e1 e2 h1 h2 h3
    · refine lv_tableIn (off := 265) (tgt := 304) hx hb dL_law_39 (by decide +kernel) (by decide +kernel) (by decide +kernel) (by decide) ?_
      rcases nm3 p1 with h1 | ⟨h1, h2, h3⟩ | ⟨h1, h2, h3⟩
      · exact lc_function_neg hlt C0 hAA hG hK hP hD hS hl p1 p2 e1 e2 h1
      · exact lc_function_big hlt C0 hAA hG hK hP hD hS hl p1 p2 e1 e2 h1 h2 h3
      · exact lc_function_ok hlt C0 hAA hG hK hP hD hS hl p1 p2 e1 e2 h1 h2 h3
    · refine lv_tableIn (off := 321) (tgt := 360) hx hb dL_law_39 (by decide +kernel) (by decide +kernel) (by decide +kernel) (by decide) ?_
      exact lc_call hlt C0 hAA hG hK hP hD hS hl p1 p2 e1 e2
    · refine lv_tableIn (off := 365) (tgt := 404) hx hb dL_law_39 (by decide +kernel) (by decide +kernel) (by decide +kernel) (by decide) ?_
      rcases two3 p1 with h1 | ⟨h1, h2, h3⟩ | ⟨h1, h2, h3⟩
      · exact lc_two_neg hlt C0 hAA hG hK hP hD hS hl p1 p2 e1 e2 h1
      · exact lc_two_big hlt C0 hAA hG hK hP hD hS hl p1 p2 e1 e2 h1 h2 h3
      · exact lc_two_ok hlt C0 hAA hG hK hP hD hS hl p1 p2 e1 e2 h1 h2 h3
    · refine lv_tableIn (off := 421) (tgt := 460) hx hb dL_law_39 (by decide +kernel) (by decide +kernel) (by decide +kernel) (by decide) ?_
      exact lc_choose hlt C0 hAA hG hK hP hD hS hl p1 p2 e1 e2
    · refine lv_tableIn (off := 465) (tgt := 504) hx hb dL_law_39 (by decide +kernel) (by decide +kernel) (by decide +kernel) (by decide) ?_
      rcases nm3 p1 with h1 | ⟨h1, h2, h3⟩ | ⟨h1, h2, h3⟩
      · exact lc_let_neg hlt C0 hAA hG hK hP hD hS hl p1 p2 e1 e2 h1
      · exact lc_let_big hlt C0 hAA hG hK hP hD hS hl p1 p2 e1 e2 h1 h2 h3
      · exact lc_let_ok hlt C0 hAA hG hK hP hD hS hl p1 p2 e1 e2 h1 h2 h3
    · refine lv_tableIn (off := 521) (tgt := 560) hx hb dL_law_39 (by decide +kernel) (by decide +kernel) (by decide +kernel) (by decide) ?_
      rcases nm3 p1 with h1 | ⟨h1, h2, h3⟩ | ⟨h1, h2, h3⟩
      · exact lc_rec_fneg hlt C0 hAA hG hK hP hD hS hl p1 p2 e1 e2 h1
      · exact lc_rec_fbig hlt C0 hAA hG hK hP hD hS hl p1 p2 e1 e2 h1 h2 h3
      · rcases nm3 p2 with j1 | ⟨j1, j2, j3⟩ | ⟨j1, j2, j3⟩
        · exact lc_rec_xneg hlt C0 hAA hG hK hP hD hS hl p1 p2 e1 e2 h1 h2 h3 j1
        · exact lc_rec_xbig hlt C0 hAA hG hK hP hD hS hl p1 p2 e1 e2 h1 h2 h3 j1 j2 j3
        · exact lc_rec_ok hlt C0 hAA hG hK hP hD hS hl p1 p2 e1 e2 h1 h2 h3 j1 j2 j3
    · refine lv_tableIn (off := 589) (tgt := 628) hx hb dL_law_39 (by decide +kernel) (by decide +kernel) (by decide +kernel) (by decide) ?_
      exact lc_pair hlt C0 hAA hG hK hP hD hS hl p1 p2 e1 e2
    · refine lv_tableIn (off := 633) (tgt := 672) hx hb dL_law_39 (by decide +kernel) (by decide +kernel) (by decide +kernel) (by decide) ?_
      exact lc_half hlt C0 hAA hG hK hP hD hS hl p1 p2 e1 e2
    · refine lv_tableIn (off := 705) (tgt := 744) hx hb dL_law_39 (by decide +kernel) (by decide +kernel) (by decide +kernel) (by decide) ?_
      exact lc_raise hlt C0 hAA hG hK hP hD hS hl p1 p2 e1 e2
    · refine lv_tableIn (off := 749) (tgt := 788) hx hb dL_law_39 (by decide +kernel) (by decide +kernel) (by decide +kernel) (by decide) ?_
      rcases nm3 p1 with h1 | ⟨h1, h2, h3⟩ | ⟨h1, h2, h3⟩
      · exact lc_handle_neg hlt C0 hAA hG hK hP hD hS hl p1 p2 e1 e2 h1
      · exact lc_handle_big hlt C0 hAA hG hK hP hD hS hl p1 p2 e1 e2 h1 h2 h3
      · exact lc_handle_ok hlt C0 hAA hG hK hP hD hS hl p1 p2 e1 e2 h1 h2 h3
    · refine lv_tableIn (off := 805) (tgt := 844) hx hb dL_law_39 (by decide +kernel) (by decide +kernel) (by decide +kernel) (by decide) ?_
      exact lc_program hlt C0 hAA hG hK hP hD hS hl p1 p2 e1 e2
    · refine lv_tableIn (off := 849) (tgt := 888) hx hb dL_law_39 (by decide +kernel) (by decide +kernel) (by decide +kernel) (by decide) ?_
      exact lc_fault hlt C0 hAA hG hK hP hD hS hl p1 p2 e1 e2
    · refine lv_tableIn (off := 893) (tgt := 932) hx hb dL_law_39 (by decide +kernel) (by decide +kernel) (by decide +kernel) (by decide) ?_
      by_cases h1 : 0 ≤ p1
      · exact lc_type_ok hlt C0 hAA hG hK hP hD hS hl p1 p2 e1 e2 h1
      · exact lc_type_neg hlt C0 hAA hG hK hP hD hS hl p1 p2 e1 e2 h1
    · refine lv_tableIn (off := 949) (tgt := 988) hx hb dL_law_39 (by decide +kernel) (by decide +kernel) (by decide +kernel) (by decide) ?_
      rcases opt3 p1 with h1 | ⟨h1, h2⟩ | ⟨h1, h2⟩
      · exact lc_optimise_neg hlt C0 hAA hG hK hP hD hS hl p1 p2 e1 e2 h1
      · exact lc_optimise_big hlt C0 hAA hG hK hP hD hS hl p1 p2 e1 e2 h1 h2
      · exact lc_optimise_ok hlt C0 hAA hG hK hP hD hS hl p1 p2 e1 e2 h1 h2
    · refine lv_tableIn (off := 1005) (tgt := 1044) hx hb dL_law_39 (by decide +kernel) (by decide +kernel) (by decide +kernel) (by decide) ?_
      exact lc_size hlt C0 hAA hG hK hP hD hS hl p1 p2 e1 e2
    · refine lv_tableIn (off := 1018) (tgt := 1057) hx hb dL_law_39 (by decide +kernel) (by decide +kernel) (by decide +kernel) (by decide) ?_
      exact lc_orders hlt C0 hAA hG hK hP hD hS hl p1 p2 e1 e2
    · refine lv_tableIn (off := 1062) (tgt := 1101) hx hb dL_law_39 (by decide +kernel) (by decide +kernel) (by decide +kernel) (by decide) ?_
      exact lc_order hlt C0 hAA hG hK hP hD hS hl p1 p2 e1 e2
    · refine lv_tableIn (off := 1129) (tgt := 1168) hx hb dL_law_39 (by decide +kernel) (by decide +kernel) (by decide +kernel) (by decide) ?_
      exact lc_stop hlt C0 hAA hG hK hP hD hS hl p1 p2 e1 e2
    · refine lv_tableIn (off := 1220) (tgt := 1259) hx hb dL_law_39 (by decide +kernel) (by decide +kernel) (by decide +kernel) (by decide) ?_
      rcases go3 p1 with h1 | ⟨h1, h2⟩ | ⟨h1, h2⟩
      · exact lc_go_neg hlt C0 hAA hG hK hP hD hS hl p1 p2 e1 e2 h1
      · exact lc_go_big hlt C0 hAA hG hK hP hD hS hl p1 p2 e1 e2 h1 h2
      · exact lc_go_ok hlt C0 hAA hG hK hP hD hS hl p1 p2 e1 e2 h1 h2
    · refine lv_tableIn (off := 1276) (tgt := 1315) hx hb dL_law_39 (by decide +kernel) (by decide +kernel) (by decide +kernel) (by decide) ?_
      exact lc_again hlt C0 hAA hG hK hP hD hS hl p1 p2 e1 e2
    · refine lv_tableIn (off := 1300) (tgt := 1339) hx hb dL_law_39 (by decide +kernel) (by decide +kernel) (by decide +kernel) (by decide) ?_
      exact lc_state hlt C0 hAA hG hK hP hD hS hl p1 p2 e1 e2
    · refine lv_tableIn (off := 1344) (tgt := 1383) hx hb dL_law_39 (by decide +kernel) (by decide +kernel) (by decide +kernel) (by decide) ?_
      exact lc_value hlt C0 hAA hG hK hP hD hS hl p1 p2 e1 e2
    · refine lv_tableIn (off := 1387) (tgt := 1426) hx hb dL_law_39 (by decide +kernel) (by decide +kernel) (by decide +kernel) (by decide) ?_
      rcases mac3 p1 with h1 | ⟨h1, h2, h3⟩ | ⟨h1, h2, h3⟩
      · exact lc_machine_neg hlt C0 hAA hG hK hP hD hS hl p1 p2 e1 e2 h1
      · exact lc_machine_big hlt C0 hAA hG hK hP hD hS hl p1 p2 e1 e2 h1 h2 h3
      · exact lc_machine_ok hlt C0 hAA hG hK hP hD hS hl p1 p2 e1 e2 h1 h2 h3
    · refine lv_tableIn (off := 1443) (tgt := 1482) hx hb dL_law_39 (by decide +kernel) (by decide +kernel) (by decide +kernel) (by decide) ?_
      exact lc_stateAnew hlt C0 hAA hG hK hP hD hS hl p1 p2 e1 e2
    · refine lv_tableIn (off := 1487) (tgt := 1526) hx hb dL_law_39 (by decide +kernel) (by decide +kernel) (by decide +kernel) (by decide) ?_
      exact lc_valueAnew hlt C0 hAA hG hK hP hD hS hl p1 p2 e1 e2
    · refine lv_tableOut (tgt := 1569) hx hb dL_law_39 (by decide +kernel) (by decide) ?_
      exact lc_next C0 hAA hS (lv_sub hl [4, 0] rfl) (Nat.le_of_ble_eq_true rfl) (Nat.le_of_ble_eq_true rfl)
    · refine lv_tableOut (tgt := 1569) hx hb dL_law_39 (by decide +kernel) (by decide) ?_
      exact lc_next C0 hAA hS (lv_sub hl [4, 0] rfl) (Nat.le_of_ble_eq_true rfl) (Nat.le_of_ble_eq_true rfl)
    · refine lv_tableOut (tgt := 1569) hx hb dL_law_39 (by decide +kernel) (by decide) ?_
      exact lc_next C0 hAA hS (lv_sub hl [4, 0] rfl) (Nat.le_of_ble_eq_true rfl) (Nat.le_of_ble_eq_true rfl)
    · refine lv_tableOut (tgt := 1569) hx hb dL_law_39 (by decide +kernel) (by decide) ?_
      exact lc_next C0 hAA hS (lv_sub hl [4, 0] rfl) (Nat.le_of_ble_eq_true rfl) (Nat.le_of_ble_eq_true rfl)
    · refine lv_tableOut (tgt := 1569) hx hb dL_law_39 (by decide +kernel) (by decide) ?_
      exact lc_next C0 hAA hS (lv_sub hl [4, 0] rfl) (Nat.le_of_ble_eq_true rfl) (Nat.le_of_ble_eq_true rfl)
  · exact lc_back C0 hAA hS (lv_sub hl [4, 0] rfl) (by rcases (show L = 0 ∨ L = 1 ∨ L = 2 by omega) with rfl | rfl | rfl <;> decide) (Nat.le_of_ble_eq_true rfl) (Nat.le_of_ble_eq_true rfl)
set_option maxHeartbeats 4000000 in
set_option maxRecDepth 100000 in
/-- what the Statement gives of the start -/
theorem gx_start {p : Program} {s : State} {m : MethodId} {meth : Method} {c : Code} {b L : Nat} {xs : Nat → Int32} (C0 : lw_At p s m meth c b L xs) : ∃ tp te : Nat, gx tp te (fun q : Nat => s.heap.size ≤ q) s s.heap := by
  obtain ⟨hx, hb, hr, hml, hown, hts, hX, hbl, hlocks, hgv⟩ := C0
  have hf := flat_of_before _ hgv
  have hA : ∀ a : Nat, a < s.heap.size → ¬ s.heap.size ≤ a := fun a h => Nat.not_le.mpr h
  have hel : ∀ j : Nat, j < 12 → (Term.elem (.static "Selfkindle$Term" "PARTS_OF" "[I") (.int (Int32.ofNat j))).eval #[Value.ref b] s none [] s = some (pfv j) := by
    intro j hj
    rcases (show j = 0 ∨ j = 1 ∨ j = 2 ∨ j = 3 ∨ j = 4 ∨ j = 5 ∨ j = 6 ∨ j = 7 ∨ j = 8 ∨ j = 9 ∨ j = 10 ∨ j = 11 by omega) with rfl | rfl | rfl | rfl | rfl | rfl | rfl | rfl | rfl | rfl | rfl | rfl
    · exact va_eqt (z := 0) (hf (.eq (.elem (.static "Selfkindle$Term" "PARTS_OF" "[I") (.int 0)) (.int 0)) (by decide +kernel))
    · exact va_eqt (z := 0) (hf (.eq (.elem (.static "Selfkindle$Term" "PARTS_OF" "[I") (.int 1)) (.int 0)) (by decide +kernel))
    · exact va_eqt (z := 1) (hf (.eq (.elem (.static "Selfkindle$Term" "PARTS_OF" "[I") (.int 2)) (.int 1)) (by decide +kernel))
    · exact va_eqt (z := 2) (hf (.eq (.elem (.static "Selfkindle$Term" "PARTS_OF" "[I") (.int 3)) (.int 2)) (by decide +kernel))
    · exact va_eqt (z := 2) (hf (.eq (.elem (.static "Selfkindle$Term" "PARTS_OF" "[I") (.int 4)) (.int 2)) (by decide +kernel))
    · exact va_eqt (z := 3) (hf (.eq (.elem (.static "Selfkindle$Term" "PARTS_OF" "[I") (.int 5)) (.int 3)) (by decide +kernel))
    · exact va_eqt (z := 2) (hf (.eq (.elem (.static "Selfkindle$Term" "PARTS_OF" "[I") (.int 6)) (.int 2)) (by decide +kernel))
    · exact va_eqt (z := 2) (hf (.eq (.elem (.static "Selfkindle$Term" "PARTS_OF" "[I") (.int 7)) (.int 2)) (by decide +kernel))
    · exact va_eqt (z := 2) (hf (.eq (.elem (.static "Selfkindle$Term" "PARTS_OF" "[I") (.int 8)) (.int 2)) (by decide +kernel))
    · exact va_eqt (z := 1) (hf (.eq (.elem (.static "Selfkindle$Term" "PARTS_OF" "[I") (.int 9)) (.int 1)) (by decide +kernel))
    · exact va_eqt (z := 1) (hf (.eq (.elem (.static "Selfkindle$Term" "PARTS_OF" "[I") (.int 10)) (.int 1)) (by decide +kernel))
    · exact va_eqt (z := 2) (hf (.eq (.elem (.static "Selfkindle$Term" "PARTS_OF" "[I") (.int 11)) (.int 2)) (by decide +kernel))
  obtain ⟨tp, ev, hT⟩ := va_Tof (args := #[Value.ref b]) (tm := (.static "Selfkindle$Term" "PARTS_OF" "[I")) (ty := .int) (N := 12) (f := pfv) (A := fun q : Nat => s.heap.size ≤ q) (by decide) (hf (.arrayOf (.static "Selfkindle$Term" "PARTS_OF" "[I") .int) (by decide +kernel)) (va_eqt (z := 12) (hf (.eq (.length (.static "Selfkindle$Term" "PARTS_OF" "[I")) (.int 12)) (by decide +kernel))) hel hA
  obtain ⟨te, ev2, hT2⟩ := va_Tof (args := #[Value.ref b]) (tm := (.static "java/util/ArrayList" "DEFAULTCAPACITY_EMPTY_ELEMENTDATA" "[Ljava/lang/Object;")) (ty := .object "java/lang/Object") (N := 0) (f := fun _ => .null) (A := fun q : Nat => s.heap.size ≤ q) (by decide) (hf (.arrayOf (.static "java/util/ArrayList" "DEFAULTCAPACITY_EMPTY_ELEMENTDATA" "[Ljava/lang/Object;") (.object "java/lang/Object")) (by decide +kernel)) (va_eqt (z := 0) (hf (.eq (.length (.static "java/util/ArrayList" "DEFAULTCAPACITY_EMPTY_ELEMENTDATA" "[Ljava/lang/Object;")) (.int 0)) (by decide +kernel))) (fun j hj => absurd hj (Nat.not_lt_zero j)) hA
  exact ⟨tp, te, va_Zof (hts (.laysStatic "Selfkindle$Term" "PARTS_OF" "[I") (by decide +kernel)) (hts (.initialized "Selfkindle$Term") (by decide +kernel)) ev hA, hT, va_Zof (hts (.laysStatic "java/util/ArrayList" "DEFAULTCAPACITY_EMPTY_ELEMENTDATA" "[Ljava/lang/Object;") (by decide +kernel)) (hts (.initialized "java/util/ArrayList") (by decide +kernel)) ev2 hA, hT2, vx_Zqof (hts (.laysStatic Bundle.tN "UNASSIGNED_STACK" Bundle.steD) (by decide +kernel)) (hts (.initialized Bundle.tN) (by decide +kernel)) (hf (.isRef (.static Bundle.tN "UNASSIGNED_STACK" Bundle.steD)) (by decide +kernel)) hA, vx_Zqof (hts (.laysStatic Bundle.tN "SUPPRESSED_SENTINEL" Bundle.listD) (by decide +kernel)) (hts (.initialized Bundle.tN) (by decide +kernel)) (hf (.isRef (.static Bundle.tN "SUPPRESSED_SENTINEL" Bundle.listD)) (by decide +kernel)) hA, va_Nw.of rfl (hts (.castable "java/lang/IllegalStateException" "java/lang/IllegalStateException") (by decide +kernel)), va_Nw.of rfl (hts (.castable "java/lang/IndexOutOfBoundsException" "java/lang/IndexOutOfBoundsException") (by decide +kernel)), va_Nw.of rfl (hts (.castable "java/lang/IllegalArgumentException" "java/lang/IllegalArgumentException") (by decide +kernel)), va_Nw.of rfl (hts (.castable "SelfkindleModel$Term" "java/lang/Object") (by decide +kernel)), va_Nc.of (hf (.not (.castable "java/lang/IllegalStateException" "java/lang/IndexOutOfBoundsException")) (by decide +kernel)), va_Nc.of (hf (.not (.castable "java/lang/IllegalStateException" "java/lang/IllegalArgumentException")) (by decide +kernel)), va_AO.of (hts (.arrayOver (.object "SelfkindleModel$Term")) (by decide +kernel)), va_AO.of (hts (.arrayOver (.object "java/lang/Object")) (by decide +kernel)), va_Nw.of rfl (hts (.declares (Bundle.init0 "java/lang/RuntimeException")) (by decide +kernel)), va_Nw.of rfl (hts (.declares (Bundle.init0 "java/lang/Exception")) (by decide +kernel)), va_Nw.of rfl (hts (.declares (Bundle.init0 "java/lang/Throwable")) (by decide +kernel))⟩
theorem dflt_X7 : ∀ j, j < 11 → defaultValue (tyX7 j) = vp_V [.null, .int 0, .null, .null, .int 0, .null, .null, .null, .null, .null, .int 0] j := fun j hj => by rcases (show j = 0 ∨ j = 1 ∨ j = 2 ∨ j = 3 ∨ j = 4 ∨ j = 5 ∨ j = 6 ∨ j = 7 ∨ j = 8 ∨ j = 9 ∨ j = 10 by omega) with rfl | rfl | rfl | rfl | rfl | rfl | rfl | rfl | rfl | rfl | rfl <;> rfl
theorem dflt_X16 : ∀ j, j < 24 → defaultValue (tyX16 j) = vp_V [.null, .null, .null, .int 0, .int 0, .null, .null, .null, .null, .null, .null, .null, .int 0, .null, .int 0, .int 0, .int 0, .long 0, .null, .null, .null, .int 0, .int 0, .long 0] j := fun j hj => by rcases (show j = 0 ∨ j = 1 ∨ j = 2 ∨ j = 3 ∨ j = 4 ∨ j = 5 ∨ j = 6 ∨ j = 7 ∨ j = 8 ∨ j = 9 ∨ j = 10 ∨ j = 11 ∨ j = 12 ∨ j = 13 ∨ j = 14 ∨ j = 15 ∨ j = 16 ∨ j = 17 ∨ j = 18 ∨ j = 19 ∨ j = 20 ∨ j = 21 ∨ j = 22 ∨ j = 23 by omega) with rfl | rfl | rfl | rfl | rfl | rfl | rfl | rfl | rfl | rfl | rfl | rfl | rfl | rfl | rfl | rfl | rfl | rfl | rfl | rfl | rfl | rfl | rfl | rfl <;> rfl
theorem k_in_X2 : ∀ w ∈ wsX20, w ∈ lw_tbl := mem_r _ [1179, 1181, 1183, 1185, 1187, 1189, 1191, 1193, 1195, 1197, 1199] (by decide +kernel)
theorem k_in_X8 : ∀ w ∈ wsX80, w ∈ lw_tbl := mem_r _ [1919, 1921, 1923, 1925] (by decide +kernel)
theorem k_in_X9 : ∀ w ∈ wsX90, w ∈ lw_tbl := mem_r _ [1602, 1604, 1606, 1608, 1610] (by decide +kernel)
theorem k_in_X10 : ∀ w ∈ wsX100, w ∈ lw_tbl := mem_r _ [1747, 1749, 1751, 1753] (by decide +kernel)
theorem k_in_X11 : ∀ w ∈ wsX110, w ∈ lw_tbl := mem_r _ [1994, 1995, 1996, 1997, 1998, 2007, 2005] (by decide +kernel)
theorem k_in_X13 : ∀ w ∈ wsX130, w ∈ lw_tbl := mem_r _ [1968, 1969, 1970, 1971, 1972, 1982] (by decide +kernel)
theorem k_in_X14 : ∀ w ∈ wsX140, w ∈ lw_tbl := mem_r _ [1642, 1644, 1646, 1648] (by decide +kernel)
theorem k_in_X15 : ∀ w ∈ wsX150, w ∈ lw_tbl := mem_r _ [1885, 1887, 1889, 1891, 1893, 1895, 1897, 1899] (by decide +kernel)
set_option maxHeartbeats 4000000 in
set_option maxRecDepth 100000 in
/-- THE LAW, from its entry -/
theorem whole_start {p : Program} {e : Env} {s : State} {m : MethodId} {below : List Frame} {meth : Method} {c : Code} (l : Launch) (hflags : l.flags = flags0) {b L : Nat} {xs : Nat → Int32} (hL : L ≤ 3) (C0 : lw_At p s m meth c b L xs) : W p l e room_1 s m #[Value.ref b] below meth c s.heap [] 0 0 (lw_Z below #[Value.ref b] s) (entryFrame m ([Value.ref b] : List Value).toArray 8) := by
  have hlt : l.stackTraces = false := by unfold Launch.stackTraces; rw [hflags]; decide
  obtain ⟨tp, te, hG⟩ := gx_start C0
  obtain ⟨A, hAA⟩ : ∃ A : Nat → Prop, A = fun q : Nat => s.heap.size ≤ q := ⟨_, rfl⟩
  rw [← hAA] at hG
  obtain ⟨hx, hb, hr, hml, hown, hts0, hX, hbl, hlocks, hgv⟩ := id C0
  have hts : ∀ w ∈ z_law, w.before #[Value.ref b] s = true := fun w h => hts0 w (z_law_in w h)
  have hown : s.vm.findClass RL = some m.cls := hown
  have hA : ∀ q : Nat, s.heap.size ≤ q → A q := fun q h => by rw [hAA]; exact h
  have hbA : ¬ A b := by rw [hAA]; exact Nat.not_le.mpr hbl
  obtain ⟨u0, iS0, hKn0⟩ := u_known (C := RJx4a65c) (T := TJx4a65c) (N := 3) (n := 3) hts0 z_law_in_Jx4a65c (hts0 (.instantiable RJx4a65c 3) (by decide +kernel))
  obtain ⟨u1, iS1, hKn1⟩ := u_known (C := RX0) (T := TX0) (N := 7) (n := 7) hts0 z_law_in_X0 (hts0 (.instantiable RX0 7) (by decide +kernel))
  obtain ⟨u2, iS2, hKn2⟩ := u_known (C := RX1) (T := TX1) (N := 10) (n := 10) hts0 z_law_in_X1 (hts0 (.instantiable RX1 10) (by decide +kernel))
  obtain ⟨u3, iS3, hKn3⟩ := u_known (C := RX2) (T := TX2) (N := 11) (n := 11) hts0 k_in_X2 (hts0 (.instantiable RX2 11) (by decide +kernel))
  obtain ⟨u4, iS4, hKn4⟩ := u_known (C := RX3) (T := TX3) (N := 16) (n := 16) hts0 z_law_in_X3 (hts0 (.instantiable RX3 16) (by decide +kernel))
  obtain ⟨u5, iS5, hKn5⟩ := u_known (C := RX4) (T := TX4) (N := 2) (n := 2) hts0 z_law_in_X4 (hts0 (.instantiable RX4 2) (by decide +kernel))
  obtain ⟨u6, iS6, hKn6⟩ := u_known (C := RX5) (T := TX5) (N := 8) (n := 8) hts0 z_law_in_X5 (hts0 (.instantiable RX5 8) (by decide +kernel))
  obtain ⟨u7, iS7, hKn7⟩ := u_known (C := RX6) (T := TX6) (N := 15) (n := 15) hts0 z_law_in_X6 (hts0 (.instantiable RX6 15) (by decide +kernel))
  obtain ⟨u8, iS8, hKn8⟩ := u_known (C := RX7) (T := TX7) (N := 11) (n := 11) hts0 z_law_in_X7 (hts0 (.instantiable RX7 11) (by decide +kernel))
  obtain ⟨u9, iS9, hKn9⟩ := u_known (C := RX8) (T := TX8) (N := 4) (n := 4) hts0 k_in_X8 (hts0 (.instantiable RX8 4) (by decide +kernel))
  obtain ⟨u10, iS10, hKn10⟩ := u_known (C := RX9) (T := TX9) (N := 5) (n := 5) hts0 k_in_X9 (hts0 (.instantiable RX9 5) (by decide +kernel))
  obtain ⟨u11, iS11, hKn11⟩ := u_known (C := RX10) (T := TX10) (N := 4) (n := 4) hts0 k_in_X10 (hts0 (.instantiable RX10 4) (by decide +kernel))
  obtain ⟨u12, iS12, hKn12⟩ := u_known (C := RX11) (T := TX11) (N := 7) (n := 7) hts0 k_in_X11 (hts0 (.instantiable RX11 7) (by decide +kernel))
  obtain ⟨u13, iS13, hKn13⟩ := u_known (C := RX12) (T := TX12) (N := 5) (n := 5) hts0 z_law_in_X12 (hts0 (.instantiable RX12 5) (by decide +kernel))
  obtain ⟨u14, iS14, hKn14⟩ := u_known (C := RX13) (T := TX13) (N := 6) (n := 6) hts0 k_in_X13 (hts0 (.instantiable RX13 6) (by decide +kernel))
  obtain ⟨u15, iS15, hKn15⟩ := u_known (C := RX14) (T := TX14) (N := 4) (n := 4) hts0 k_in_X14 (hts0 (.instantiable RX14 4) (by decide +kernel))
  obtain ⟨u16, iS16, hKn16⟩ := u_known (C := RX15) (T := TX15) (N := 8) (n := 8) hts0 k_in_X15 (hts0 (.instantiable RX15 8) (by decide +kernel))
  obtain ⟨u17, iS17, hKn17⟩ := u_known (C := RX16) (T := TX16) (N := 24) (n := 24) hts0 z_law_in_X16 (hts0 (.instantiable RX16 24) (by decide +kernel))
  obtain ⟨dC, dI, hKc⟩ : ∃ (dC : Nat → ClassId) (dI : Nat → Nat → Nat), ∀ (k : Nat) (q : vw_C), vwCl[k]? = some q → u_Kn s q.1 q.2.1 q.2.2 (dC k) (dI k) := by
    refine ⟨fun k => ([u0, u1, u2, u3, u4, u5, u6, u7, u8, u9, u10, u11, u12, u13, u14, u15, u16, u17] : List ClassId).getD k u0, fun k => ([iS0, iS1, iS2, iS3, iS4, iS5, iS6, iS7, iS8, iS9, iS10, iS11, iS12, iS13, iS14, iS15, iS16, iS17] : List (Nat → Nat)).getD k iS0, ?_⟩
    intro k q hq
    match k, hq with
    | 0, hq => cases hq; exact hKn0
    | 1, hq => cases hq; exact hKn1
    | 2, hq => cases hq; exact hKn2
    | 3, hq => cases hq; exact hKn3
    | 4, hq => cases hq; exact hKn4
    | 5, hq => cases hq; exact hKn5
    | 6, hq => cases hq; exact hKn6
    | 7, hq => cases hq; exact hKn7
    | 8, hq => cases hq; exact hKn8
    | 9, hq => cases hq; exact hKn9
    | 10, hq => cases hq; exact hKn10
    | 11, hq => cases hq; exact hKn11
    | 12, hq => cases hq; exact hKn12
    | 13, hq => cases hq; exact hKn13
    | 14, hq => cases hq; exact hKn14
    | 15, hq => cases hq; exact hKn15
    | 16, hq => cases hq; exact hKn16
    | 17, hq => cases hq; exact hKn17
    | k + 18, hq => simp [vwCl] at hq
  have hS : va_S A s.heap s.heap [] := va_S.rf
  have hK : va_K (dC, dI) vwCl [] s := ⟨hKc, fun k q h => by simp at h⟩
  have hP : va_P (dC, dI) vwCl [] s.heap := va_P.nil
  have hD : va_D A [] := va_D.nil
  have hl := lv_entry ([.ref b]) (n := 8) (Nat.le_of_ble_eq_true rfl)
  rw [lg_entry_eq]
  generalize (lg_sl ([.ref b]) ++ List.replicate (8 - (lg_sl ([.ref b])).length) Slot.unset).toArray = ls at hl ⊢
  have hl : lv_has ls 8 [(0, .ref b)] := hl
  refine va_new (D := (dC, dI)) (cl := vwCl) (ci := 8) (fs := [.null, .int 0, .null, .null, .int 0, .null, .null, .null, .null, .null, .int 0]) (C := RX7) (T := TX7) (N := 11) hx hb hts in_z_law_X7 tyX7 tyX7_ok hown (hts (.classLink RL 8 RX7) (List.mem_of_getElem? (i := 0) rfl)) (hts (.instantiable RX7 11) (List.mem_of_getElem? (i := 1) rfl)) (hts (.initialized RX7) (List.mem_of_getElem? (i := 2) rfl)) hK hP hD hS hA rfl dflt_X7 (Nat.le_of_ble_eq_true rfl) (Nat.le_of_ble_eq_true rfl) dL_law_0 (fun q_1 H_2 hP hD hS => ?_)
  have hP : va_P (dC, dI) vwCl [(q_1, .inr (8, [.null, .int 0, .null, .null, .int 0, .null, .null, .null, .null, .null, .int 0]))] H_2 := hP
  have hD : va_D A [(q_1, .inr (8, [.null, .int 0, .null, .null, .int 0, .null, .null, .null, .null, .null, .int 0]))] := hD
  have hK : va_K (dC, dI) vwCl [] s := hK
  refine W.widen (k := 1) (n := 11) (Nat.le_of_ble_eq_true rfl) (Nat.le_of_ble_eq_true rfl) ?_
  refine lv_dup hx hb dL_law_3 rfl ?_
  have hPc := hP.sub (ws' := [(q_1, .inr (8, [.null, .int 0, .null, .null, .int 0, .null, .null, .null, .null, .null, .int 0]))]) [0] rfl
  have hDc := hD.sub (ws' := [(q_1, .inr (8, [.null, .int 0, .null, .null, .int 0, .null, .null, .null, .null, .null, .int 0]))]) [0] (by decide) rfl
  have hKc := hK.sub (tys' := []) [] rfl
  have hFc := va_free (wc := [(q_1, .inr (8, [.null, .int 0, .null, .null, .int 0, .null, .null, .null, .null, .null, .int 0]))]) hD hS hA [0] rfl
  refine va_callv (va_runI (As := []) (rest := [.ref q_1]) ⟨hx, hb, hml, hown, hts⟩ (c_Se l dC dI tp te H_2.size q_1) (cwI 0 hts g_law_101_Se rfl rfl rfl (hts (.initialized RX7) (List.mem_of_getElem? (i := 2) rfl)) (hts (.methodLink RL 101 yX7_init) (List.mem_of_getElem? (i := 3) rfl)) (hts (.instanceMethod yX7_init) (List.mem_of_getElem? (i := 4) rfl)) rfl (by decide +kernel) ⟨Nat.le_of_ble_eq_true rfl, Nat.le_of_ble_eq_true rfl⟩) ⟨Pw.blind, Pw.mk hPc hKc hDc hG hS hFc⟩ rfl rfl hl.1 rfl (lv_room (Nat.le_of_ble_eq_true rfl)) dL_law_4 ⟨Nat.le_of_ble_eq_true rfl, Nat.le_of_ble_eq_true rfl⟩) hS (fun q _ h => hFc q h) hFc (fun u t9 H_3 locs ht hvm hw hB hz1 hk1 hS => ?_)
  obtain ⟨q_5, q_6, q_7, q_8, q_9, q_10, q_11, q_12, q_13, q_14, q_15, q_16, q_17, q_18, cA_19, cA_20, cA_21, cA_22, cA_23, cA_24, cA_25, q_26, q_27, q_28, q_29, q_30, q_31, q_32, q_33, q_34, q_35, q_36, q_37, q_38, q_39, hP1, hK1, hD1⟩ := hB
  rw [ht] at hP1
  have hK1 := va_K.moved hvm.symm hK1
  obtain ⟨hP, hD⟩ := va_join (wr := []) (w1 := [(q_1, .inr (8, [.ref q_5, .int 0, .ref q_6, .ref q_7, .int ((-1)), .ref q_8, .ref q_9, .ref q_10, .ref q_11, .null, .int 0])), (q_5, .inr (6, [.ref q_12, .ref q_13, .ref q_14, .ref q_15, .ref q_16, .ref q_17, .ref q_18, .int 0])), (q_12, .inl (cA_19, 1200, .inl (fun _ => 0))), (q_13, .inl (cA_20, 1200, .inl (fun _ => 0))), (q_14, .inl (cA_21, 1200, .inl (fun _ => 0))), (q_15, .inl (cA_22, 1200, .inr (.inl (fun _ => 0)))), (q_16, .inl (cA_23, 1200, .inl (fun _ => 0))), (q_17, .inl (cA_24, 1200, .inl (fun _ => 0))), (q_18, .inl (cA_25, 1200, .inl (fun _ => 0))), (q_6, .inr (6, [.ref q_26, .ref q_27, .ref q_28, .ref q_29, .ref q_30, .ref q_31, .ref q_32, .int 0])), (q_7, .inr (6, [.ref q_33, .ref q_34, .ref q_35, .ref q_36, .ref q_37, .ref q_38, .ref q_39, .int 0]))]) hP hD [0] [] rfl rfl (by decide) (by decide) hk1 hFc hP1 hD1
  have hK := (hK.sub (tys' := []) [] rfl).app hK1
  have hP : va_P (dC, dI) vwCl [(q_1, .inr (8, [.ref q_5, .int 0, .ref q_6, .ref q_7, .int ((-1)), .ref q_8, .ref q_9, .ref q_10, .ref q_11, .null, .int 0])), (q_5, .inr (6, [.ref q_12, .ref q_13, .ref q_14, .ref q_15, .ref q_16, .ref q_17, .ref q_18, .int 0])), (q_12, .inl (cA_19, 1200, .inl (fun _ => 0))), (q_13, .inl (cA_20, 1200, .inl (fun _ => 0))), (q_14, .inl (cA_21, 1200, .inl (fun _ => 0))), (q_15, .inl (cA_22, 1200, .inr (.inl (fun _ => 0)))), (q_16, .inl (cA_23, 1200, .inl (fun _ => 0))), (q_17, .inl (cA_24, 1200, .inl (fun _ => 0))), (q_18, .inl (cA_25, 1200, .inl (fun _ => 0))), (q_6, .inr (6, [.ref q_26, .ref q_27, .ref q_28, .ref q_29, .ref q_30, .ref q_31, .ref q_32, .int 0])), (q_7, .inr (6, [.ref q_33, .ref q_34, .ref q_35, .ref q_36, .ref q_37, .ref q_38, .ref q_39, .int 0]))] H_3 := hP
  have hD : va_D A [(q_1, .inr (8, [.ref q_5, .int 0, .ref q_6, .ref q_7, .int ((-1)), .ref q_8, .ref q_9, .ref q_10, .ref q_11, .null, .int 0])), (q_5, .inr (6, [.ref q_12, .ref q_13, .ref q_14, .ref q_15, .ref q_16, .ref q_17, .ref q_18, .int 0])), (q_12, .inl (cA_19, 1200, .inl (fun _ => 0))), (q_13, .inl (cA_20, 1200, .inl (fun _ => 0))), (q_14, .inl (cA_21, 1200, .inl (fun _ => 0))), (q_15, .inl (cA_22, 1200, .inr (.inl (fun _ => 0)))), (q_16, .inl (cA_23, 1200, .inl (fun _ => 0))), (q_17, .inl (cA_24, 1200, .inl (fun _ => 0))), (q_18, .inl (cA_25, 1200, .inl (fun _ => 0))), (q_6, .inr (6, [.ref q_26, .ref q_27, .ref q_28, .ref q_29, .ref q_30, .ref q_31, .ref q_32, .int 0])), (q_7, .inr (6, [.ref q_33, .ref q_34, .ref q_35, .ref q_36, .ref q_37, .ref q_38, .ref q_39, .int 0]))] := hD
  have hK : va_K (dC, dI) vwCl [(cA_19, .int), (cA_20, .int), (cA_21, .int), (cA_22, .long), (cA_23, .int), (cA_24, .int), (cA_25, .int)] s := hK
  refine W.widen (k := 78) (n := 77951) (Nat.le_of_ble_eq_true rfl) (Nat.le_of_ble_eq_true rfl) ?_
  refine lv_astore_n (lv' := [(1, .ref q_1), (0, .ref b)]) hx hb dL_law_7 rfl hl (by decide) rfl (fun ls hl => ?_)
  refine va_new (D := (dC, dI)) (cl := vwCl) (ci := 17) (fs := [.null, .null, .null, .int 0, .int 0, .null, .null, .null, .null, .null, .null, .null, .int 0, .null, .int 0, .int 0, .int 0, .long 0, .null, .null, .null, .int 0, .int 0, .long 0]) (C := RX16) (T := TX16) (N := 24) hx hb hts in_z_law_X16 tyX16 tyX16_ok hown (hts (.classLink RL 102 RX16) (List.mem_of_getElem? (i := 109) rfl)) (hts (.instantiable RX16 24) (List.mem_of_getElem? (i := 110) rfl)) (hts (.initialized RX16) (List.mem_of_getElem? (i := 111) rfl)) hK hP hD hS hA rfl dflt_X16 (Nat.le_of_ble_eq_true rfl) (Nat.le_of_ble_eq_true rfl) dL_law_8 (fun q_40 H_41 hP hD hS => ?_)
  have hP : va_P (dC, dI) vwCl [(q_1, .inr (8, [.ref q_5, .int 0, .ref q_6, .ref q_7, .int ((-1)), .ref q_8, .ref q_9, .ref q_10, .ref q_11, .null, .int 0])), (q_5, .inr (6, [.ref q_12, .ref q_13, .ref q_14, .ref q_15, .ref q_16, .ref q_17, .ref q_18, .int 0])), (q_12, .inl (cA_19, 1200, .inl (fun _ => 0))), (q_13, .inl (cA_20, 1200, .inl (fun _ => 0))), (q_14, .inl (cA_21, 1200, .inl (fun _ => 0))), (q_15, .inl (cA_22, 1200, .inr (.inl (fun _ => 0)))), (q_16, .inl (cA_23, 1200, .inl (fun _ => 0))), (q_17, .inl (cA_24, 1200, .inl (fun _ => 0))), (q_18, .inl (cA_25, 1200, .inl (fun _ => 0))), (q_6, .inr (6, [.ref q_26, .ref q_27, .ref q_28, .ref q_29, .ref q_30, .ref q_31, .ref q_32, .int 0])), (q_7, .inr (6, [.ref q_33, .ref q_34, .ref q_35, .ref q_36, .ref q_37, .ref q_38, .ref q_39, .int 0])), (q_40, .inr (17, [.null, .null, .null, .int 0, .int 0, .null, .null, .null, .null, .null, .null, .null, .int 0, .null, .int 0, .int 0, .int 0, .long 0, .null, .null, .null, .int 0, .int 0, .long 0]))] H_41 := hP
  have hD : va_D A [(q_1, .inr (8, [.ref q_5, .int 0, .ref q_6, .ref q_7, .int ((-1)), .ref q_8, .ref q_9, .ref q_10, .ref q_11, .null, .int 0])), (q_5, .inr (6, [.ref q_12, .ref q_13, .ref q_14, .ref q_15, .ref q_16, .ref q_17, .ref q_18, .int 0])), (q_12, .inl (cA_19, 1200, .inl (fun _ => 0))), (q_13, .inl (cA_20, 1200, .inl (fun _ => 0))), (q_14, .inl (cA_21, 1200, .inl (fun _ => 0))), (q_15, .inl (cA_22, 1200, .inr (.inl (fun _ => 0)))), (q_16, .inl (cA_23, 1200, .inl (fun _ => 0))), (q_17, .inl (cA_24, 1200, .inl (fun _ => 0))), (q_18, .inl (cA_25, 1200, .inl (fun _ => 0))), (q_6, .inr (6, [.ref q_26, .ref q_27, .ref q_28, .ref q_29, .ref q_30, .ref q_31, .ref q_32, .int 0])), (q_7, .inr (6, [.ref q_33, .ref q_34, .ref q_35, .ref q_36, .ref q_37, .ref q_38, .ref q_39, .int 0])), (q_40, .inr (17, [.null, .null, .null, .int 0, .int 0, .null, .null, .null, .null, .null, .null, .null, .int 0, .null, .int 0, .int 0, .int 0, .long 0, .null, .null, .null, .int 0, .int 0, .long 0]))] := hD
  have hK : va_K (dC, dI) vwCl [(cA_19, .int), (cA_20, .int), (cA_21, .int), (cA_22, .long), (cA_23, .int), (cA_24, .int), (cA_25, .int)] s := hK
  refine W.widen (k := 79) (n := 77975) (Nat.le_of_ble_eq_true rfl) (Nat.le_of_ble_eq_true rfl) ?_
  refine lv_dup hx hb dL_law_11 rfl ?_
  have hPc := hP.sub (ws' := [(q_40, .inr (17, [.null, .null, .null, .int 0, .int 0, .null, .null, .null, .null, .null, .null, .null, .int 0, .null, .int 0, .int 0, .int 0, .long 0, .null, .null, .null, .int 0, .int 0, .long 0]))]) [11] rfl
  have hDc := hD.sub (ws' := [(q_40, .inr (17, [.null, .null, .null, .int 0, .int 0, .null, .null, .null, .null, .null, .null, .null, .int 0, .null, .int 0, .int 0, .int 0, .long 0, .null, .null, .null, .int 0, .int 0, .long 0]))]) [11] (by decide) rfl
  have hKc := hK.sub (tys' := []) [] rfl
  have hFc := va_free (wc := [(q_40, .inr (17, [.null, .null, .null, .int 0, .int 0, .null, .null, .null, .null, .null, .null, .null, .int 0, .null, .int 0, .int 0, .int 0, .long 0, .null, .null, .null, .int 0, .int 0, .long 0]))]) hD hS hA [11] rfl
  refine va_callv (va_runI (As := []) (rest := [.ref q_40]) ⟨hx, hb, hml, hown, hts⟩ (c_Mi l dC dI tp te H_41.size q_40) (cwI 0 hts g_law_104_Mi rfl rfl rfl (hts (.initialized RX16) (List.mem_of_getElem? (i := 111) rfl)) (hts (.methodLink RL 104 yX16_init) (List.mem_of_getElem? (i := 112) rfl)) (hts (.instanceMethod yX16_init) (List.mem_of_getElem? (i := 113) rfl)) rfl (by decide +kernel) ⟨Nat.le_of_ble_eq_true rfl, Nat.le_of_ble_eq_true rfl⟩) ⟨Pw.blind, Pw.mk hPc hKc hDc hG hS hFc⟩ rfl rfl hl.1 rfl (lv_room (Nat.le_of_ble_eq_true rfl)) dL_law_12 ⟨Nat.le_of_ble_eq_true rfl, Nat.le_of_ble_eq_true rfl⟩) hS (fun q _ h => hFc q h) hFc (fun u t9 H_42 locs ht hvm hw hB hz1 hk1 hS => ?_)
  obtain ⟨q_44, q_45, q_46, q_47, q_48, q_49, q_50, q_51, q_52, hP1, hK1, hD1⟩ := hB
  rw [ht] at hP1
  have hK1 := va_K.moved hvm.symm hK1
  obtain ⟨hP, hD⟩ := va_join (wr := [(q_1, .inr (8, [.ref q_5, .int 0, .ref q_6, .ref q_7, .int ((-1)), .ref q_8, .ref q_9, .ref q_10, .ref q_11, .null, .int 0])), (q_5, .inr (6, [.ref q_12, .ref q_13, .ref q_14, .ref q_15, .ref q_16, .ref q_17, .ref q_18, .int 0])), (q_12, .inl (cA_19, 1200, .inl (fun _ => 0))), (q_13, .inl (cA_20, 1200, .inl (fun _ => 0))), (q_14, .inl (cA_21, 1200, .inl (fun _ => 0))), (q_15, .inl (cA_22, 1200, .inr (.inl (fun _ => 0)))), (q_16, .inl (cA_23, 1200, .inl (fun _ => 0))), (q_17, .inl (cA_24, 1200, .inl (fun _ => 0))), (q_18, .inl (cA_25, 1200, .inl (fun _ => 0))), (q_6, .inr (6, [.ref q_26, .ref q_27, .ref q_28, .ref q_29, .ref q_30, .ref q_31, .ref q_32, .int 0])), (q_7, .inr (6, [.ref q_33, .ref q_34, .ref q_35, .ref q_36, .ref q_37, .ref q_38, .ref q_39, .int 0]))]) (w1 := [(q_40, .inr (17, [.ref q_44, .null, .null, .int 0, .int 0, .ref q_45, .ref q_46, .ref q_47, .ref q_48, .ref q_49, .null, .null, .int 0, .ref q_50, .int 0, .int 0, .int 0, .long 0, .null, .ref q_51, .ref q_52, .int 0, .int 0, .long 0])), (q_44, .inr (0, [.int 0, .ref te, .int 0]))]) hP hD [11] [0, 1, 2, 3, 4, 5, 6, 7, 8, 9, 10] rfl rfl (by decide) (by decide) hk1 hFc hP1 hD1
  have hK := (hK.sub (tys' := [(cA_19, .int), (cA_20, .int), (cA_21, .int), (cA_22, .long), (cA_23, .int), (cA_24, .int), (cA_25, .int)]) [0, 1, 2, 3, 4, 5, 6] rfl).app hK1
  have hP : va_P (dC, dI) vwCl [(q_1, .inr (8, [.ref q_5, .int 0, .ref q_6, .ref q_7, .int ((-1)), .ref q_8, .ref q_9, .ref q_10, .ref q_11, .null, .int 0])), (q_5, .inr (6, [.ref q_12, .ref q_13, .ref q_14, .ref q_15, .ref q_16, .ref q_17, .ref q_18, .int 0])), (q_12, .inl (cA_19, 1200, .inl (fun _ => 0))), (q_13, .inl (cA_20, 1200, .inl (fun _ => 0))), (q_14, .inl (cA_21, 1200, .inl (fun _ => 0))), (q_15, .inl (cA_22, 1200, .inr (.inl (fun _ => 0)))), (q_16, .inl (cA_23, 1200, .inl (fun _ => 0))), (q_17, .inl (cA_24, 1200, .inl (fun _ => 0))), (q_18, .inl (cA_25, 1200, .inl (fun _ => 0))), (q_6, .inr (6, [.ref q_26, .ref q_27, .ref q_28, .ref q_29, .ref q_30, .ref q_31, .ref q_32, .int 0])), (q_7, .inr (6, [.ref q_33, .ref q_34, .ref q_35, .ref q_36, .ref q_37, .ref q_38, .ref q_39, .int 0])), (q_40, .inr (17, [.ref q_44, .null, .null, .int 0, .int 0, .ref q_45, .ref q_46, .ref q_47, .ref q_48, .ref q_49, .null, .null, .int 0, .ref q_50, .int 0, .int 0, .int 0, .long 0, .null, .ref q_51, .ref q_52, .int 0, .int 0, .long 0])), (q_44, .inr (0, [.int 0, .ref te, .int 0]))] H_42 := hP
  have hD : va_D A [(q_1, .inr (8, [.ref q_5, .int 0, .ref q_6, .ref q_7, .int ((-1)), .ref q_8, .ref q_9, .ref q_10, .ref q_11, .null, .int 0])), (q_5, .inr (6, [.ref q_12, .ref q_13, .ref q_14, .ref q_15, .ref q_16, .ref q_17, .ref q_18, .int 0])), (q_12, .inl (cA_19, 1200, .inl (fun _ => 0))), (q_13, .inl (cA_20, 1200, .inl (fun _ => 0))), (q_14, .inl (cA_21, 1200, .inl (fun _ => 0))), (q_15, .inl (cA_22, 1200, .inr (.inl (fun _ => 0)))), (q_16, .inl (cA_23, 1200, .inl (fun _ => 0))), (q_17, .inl (cA_24, 1200, .inl (fun _ => 0))), (q_18, .inl (cA_25, 1200, .inl (fun _ => 0))), (q_6, .inr (6, [.ref q_26, .ref q_27, .ref q_28, .ref q_29, .ref q_30, .ref q_31, .ref q_32, .int 0])), (q_7, .inr (6, [.ref q_33, .ref q_34, .ref q_35, .ref q_36, .ref q_37, .ref q_38, .ref q_39, .int 0])), (q_40, .inr (17, [.ref q_44, .null, .null, .int 0, .int 0, .ref q_45, .ref q_46, .ref q_47, .ref q_48, .ref q_49, .null, .null, .int 0, .ref q_50, .int 0, .int 0, .int 0, .long 0, .null, .ref q_51, .ref q_52, .int 0, .int 0, .long 0])), (q_44, .inr (0, [.int 0, .ref te, .int 0]))] := hD
  have hK : va_K (dC, dI) vwCl [(cA_19, .int), (cA_20, .int), (cA_21, .int), (cA_22, .long), (cA_23, .int), (cA_24, .int), (cA_25, .int)] s := hK
  refine W.widen (k := 88) (n := 78002) (Nat.le_of_ble_eq_true rfl) (Nat.le_of_ble_eq_true rfl) ?_
  refine lv_astore_n (lv' := [(2, .ref q_40), (1, .ref q_1), (0, .ref b)]) hx hb dL_law_15 rfl hl (by decide) rfl (fun ls hl => ?_)
  refine lv_iconst (v := 1) hx hb dL_law_16 (by decide) ?_
  refine va_newa (atype := .long) (ty := .long) (a0 := (1, .inr (.inl (fun _ => 0)))) hx hb (hts (.arrayClass .long) (List.mem_of_getElem? (i := 20) rfl)) rfl hK hP hD hS hA (fun _ => rfl) (by decide) (by decide +kernel) (Nat.le_of_ble_eq_true rfl) (Nat.le_of_ble_eq_true rfl) (Nat.le_of_ble_eq_true rfl) dL_law_17 (fun q_53 cA_54 H_55 hK hP hD hS => ?_)
  have hP : va_P (dC, dI) vwCl [(q_1, .inr (8, [.ref q_5, .int 0, .ref q_6, .ref q_7, .int ((-1)), .ref q_8, .ref q_9, .ref q_10, .ref q_11, .null, .int 0])), (q_5, .inr (6, [.ref q_12, .ref q_13, .ref q_14, .ref q_15, .ref q_16, .ref q_17, .ref q_18, .int 0])), (q_12, .inl (cA_19, 1200, .inl (fun _ => 0))), (q_13, .inl (cA_20, 1200, .inl (fun _ => 0))), (q_14, .inl (cA_21, 1200, .inl (fun _ => 0))), (q_15, .inl (cA_22, 1200, .inr (.inl (fun _ => 0)))), (q_16, .inl (cA_23, 1200, .inl (fun _ => 0))), (q_17, .inl (cA_24, 1200, .inl (fun _ => 0))), (q_18, .inl (cA_25, 1200, .inl (fun _ => 0))), (q_6, .inr (6, [.ref q_26, .ref q_27, .ref q_28, .ref q_29, .ref q_30, .ref q_31, .ref q_32, .int 0])), (q_7, .inr (6, [.ref q_33, .ref q_34, .ref q_35, .ref q_36, .ref q_37, .ref q_38, .ref q_39, .int 0])), (q_40, .inr (17, [.ref q_44, .null, .null, .int 0, .int 0, .ref q_45, .ref q_46, .ref q_47, .ref q_48, .ref q_49, .null, .null, .int 0, .ref q_50, .int 0, .int 0, .int 0, .long 0, .null, .ref q_51, .ref q_52, .int 0, .int 0, .long 0])), (q_44, .inr (0, [.int 0, .ref te, .int 0])), (q_53, .inl (cA_54, 1, .inr (.inl (fun _ => 0))))] H_55 := hP
  have hD : va_D A [(q_1, .inr (8, [.ref q_5, .int 0, .ref q_6, .ref q_7, .int ((-1)), .ref q_8, .ref q_9, .ref q_10, .ref q_11, .null, .int 0])), (q_5, .inr (6, [.ref q_12, .ref q_13, .ref q_14, .ref q_15, .ref q_16, .ref q_17, .ref q_18, .int 0])), (q_12, .inl (cA_19, 1200, .inl (fun _ => 0))), (q_13, .inl (cA_20, 1200, .inl (fun _ => 0))), (q_14, .inl (cA_21, 1200, .inl (fun _ => 0))), (q_15, .inl (cA_22, 1200, .inr (.inl (fun _ => 0)))), (q_16, .inl (cA_23, 1200, .inl (fun _ => 0))), (q_17, .inl (cA_24, 1200, .inl (fun _ => 0))), (q_18, .inl (cA_25, 1200, .inl (fun _ => 0))), (q_6, .inr (6, [.ref q_26, .ref q_27, .ref q_28, .ref q_29, .ref q_30, .ref q_31, .ref q_32, .int 0])), (q_7, .inr (6, [.ref q_33, .ref q_34, .ref q_35, .ref q_36, .ref q_37, .ref q_38, .ref q_39, .int 0])), (q_40, .inr (17, [.ref q_44, .null, .null, .int 0, .int 0, .ref q_45, .ref q_46, .ref q_47, .ref q_48, .ref q_49, .null, .null, .int 0, .ref q_50, .int 0, .int 0, .int 0, .long 0, .null, .ref q_51, .ref q_52, .int 0, .int 0, .long 0])), (q_44, .inr (0, [.int 0, .ref te, .int 0])), (q_53, .inl (cA_54, 1, .inr (.inl (fun _ => 0))))] := hD
  have hK : va_K (dC, dI) vwCl [(cA_19, .int), (cA_20, .int), (cA_21, .int), (cA_22, .long), (cA_23, .int), (cA_24, .int), (cA_25, .int), (cA_54, .long)] s := hK
  refine W.widen (k := 89) (n := 78003) (Nat.le_of_ble_eq_true rfl) (Nat.le_of_ble_eq_true rfl) ?_
  refine lv_astore_n (lv' := [(3, .ref q_53), (2, .ref q_40), (1, .ref q_1), (0, .ref b)]) hx hb dL_law_19 rfl hl (by decide) rfl (fun ls hl => ?_)
  refine lv_iconst (v := 0) hx hb dL_law_20 (by decide) ?_
  refine lv_istore (lv' := [(4, .int 0), (3, .ref q_53), (2, .ref q_40), (1, .ref q_1), (0, .ref b)]) hx hb dL_law_21 hl (by decide) rfl (fun ls hl => ?_)
  exact lc_first hlt hL C0 hAA hG hK hP hD hS hl
