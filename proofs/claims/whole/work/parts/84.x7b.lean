/-! THE LAW'S LOOP -/
theorem law_le {L i : Nat} (hL : L ≤ 3072) (hi : i ≤ L) (c : ¬ (nI L - 6 < nI i)) : i + 6 ≤ L := by
  rcases Nat.lt_or_ge L 6 with q | q
  · exfalso
    refine c (Int32.lt_of_lt_of_le (b := 0) ?_ (nI_leI (a := 0) (b := i) (by omega) (by omega) |>.mpr (Nat.zero_le i)))
    rcases (show L = 0 ∨ L = 1 ∨ L = 2 ∨ L = 3 ∨ L = 4 ∨ L = 5 by omega) with rfl | rfl | rfl | rfl | rfl | rfl <;> decide
  · rw [show (6 : Int32) = nI 6 from rfl, pk_sub (by omega)] at c
    have : ¬ (L - 6 < i) := fun h9 => c ((nI_ltI (a := L - 6) (b := i) (by omega) (by omega)).mpr h9)
    omega
set_option maxHeartbeats 4000000 in
set_option maxRecDepth 100000 in
theorem law_loop {M : kT} {b L : Nat} {xs : Nat → Int32} (C : l_ctx M b L xs) {A : Nat → Nat → Nat} {B : Nat → Nat} (hL : L ≤ 3072) (Rt : ∀ (pc : Nat) (lv : List (Nat × Value)) (w2 : va_W), decode cL_law pc = .ok (.ireturn, 1) → kJ M 4 pc lv [.int 1] w2) (X Y : AS) (T : FS) (J : TJ) (D : DJ) (h : a_inv X) (hr : a_rel X Y) : kJ M 4 18 [(3, .int 0), (2, .ref (B 0)), (1, .ref ((A 0) 0)), (0, .ref b)] [] (w_C (k_Z M) A X T J ++ w_M (k_Z M) B Y D) := by
  have K := C.1
  refine q_loop (α := Nat × AS × AS × FS × TJ × DJ) (fun n9 x => (x.1 + n9 = L) ∧ a_inv x.2.1 ∧ a_rel x.2.1 x.2.2.1) 18 (fun x => [(3, .int (nI x.1)), (2, .ref (B 0)), (1, .ref ((A 0) 0)), (0, .ref b)]) (fun x => w_C (k_Z M) A x.2.1 x.2.2.2.1 x.2.2.2.2.1 ++ w_M (k_Z M) B x.2.2.1 x.2.2.2.2.2) (fun n x hI ih => ?_) L (0, X, Y, T, J, D) ⟨Nat.zero_add _, h, hr⟩
  obtain ⟨i, X, Y, T, J, D⟩ := x
  dsimp only at hI ih ⊢
  obtain ⟨hin, h, hr⟩ := hI
  refine q_iload_n K 0 dL_law_18 rfl ?_
  refine q_aload_n K 3 dL_law_19 rfl ?_
  refine q_slen C dL_law_20 ?_
  refine q_bipush 6 K dL_law_21 rfl ?_
  refine q_isub K dL_law_23 ?_
  refine q_icmp_gt 1643 K dL_law_24 (by decide) (fun c => ?_) (fun c => ?_)
  · refine q_iconst 1 K dL_law_1643 rfl ?_
    exact Rt _ _ _ dL_law_1644
  · have hi : i + 6 ≤ L := law_le hL (by omega) c
    have nx : ∀ (X2 Y2 : AS) (T2 : FS) (J2 : TJ) (D2 : DJ), a_inv X2 → a_rel X2 Y2 → kJ M 4 1637 [(3, .int (nI i)), (2, .ref (B 0)), (1, .ref ((A 0) 0)), (0, .ref b)] [] (w_C (k_Z M) A X2 T2 J2 ++ w_M (k_Z M) B Y2 D2) := by
      intro X2 Y2 T2 J2 D2 h2 hr2
      refine q_iinc (nI (i + 6)) (lv' := [(3, .int (nI (i + 6))), (2, .ref (B 0)), (1, .ref ((A 0) 0)), (0, .ref b)]) K 0 dL_law_1637 rfl (kn_add i 6) (by decide) rfl ?_
      refine q_goto 18 K dL_law_1640 (by decide) ?_
      exact ih (n - 6) (i + 6, X2, Y2, T2, J2, D2) (by omega) ⟨by show i + 6 + (n - 6) = L; omega, h2, hr2⟩
    refine q_aload_n K 3 dL_law_27 rfl ?_
    refine q_iload_n K 0 dL_law_28 rfl ?_
    refine q_sld (j := i) C (by omega) hL dL_law_29 ?_
    refine q_bipush 63 K dL_law_30 rfl ?_
    refine q_iand K dL_law_32 ?_
    refine q_topi (fun v ev => ?_)
    by_cases c0 : v = 0
    · refine q_tableIn (off := 191) 224 K dL_law_33 (by rw [c0]; decide) (by rw [c0]; decide) (by rw [c0]; rfl) (by decide) ?_
      exact law_beasts C hi hL h hr nx
    by_cases c1 : v = 1
    · refine q_tableIn (off := 224) 257 K dL_law_33 (by rw [c1]; decide) (by rw [c1]; decide) (by rw [c1]; rfl) (by decide) ?_
      exact law_field C hi hL h hr nx
    by_cases c2 : v = 2
    · refine q_tableIn (off := 257) 290 K dL_law_33 (by rw [c2]; decide) (by rw [c2]; decide) (by rw [c2]; rfl) (by decide) ?_
      exact law_gate C hi hL h hr nx
    by_cases c3 : v = 3
    · refine q_tableIn (off := 290) 323 K dL_law_33 (by rw [c3]; decide) (by rw [c3]; decide) (by rw [c3]; rfl) (by decide) ?_
      exact law_stands C hi hL h hr nx
    by_cases c4 : v = 4
    · refine q_tableIn (off := 313) 346 K dL_law_33 (by rw [c4]; decide) (by rw [c4]; decide) (by rw [c4]; rfl) (by decide) ?_
      exact law_wind C hi hL h hr nx
    by_cases c5 : v = 5
    · refine q_tableIn (off := 336) 369 K dL_law_33 (by rw [c5]; decide) (by rw [c5]; decide) (by rw [c5]; rfl) (by decide) ?_
      exact law_walker C hi hL h hr nx
    by_cases c6 : v = 6
    · refine q_tableIn (off := 369) 402 K dL_law_33 (by rw [c6]; decide) (by rw [c6]; decide) (by rw [c6]; rfl) (by decide) ?_
      exact law_of C hi hL h hr nx
    by_cases c7 : v = 7
    · refine q_tableIn (off := 402) 435 K dL_law_33 (by rw [c7]; decide) (by rw [c7]; decide) (by rw [c7]; rfl) (by decide) ?_
      exact law_change C hi hL h hr nx
    by_cases c8 : v = 8
    · refine q_tableIn (off := 445) 478 K dL_law_33 (by rw [c8]; decide) (by rw [c8]; decide) (by rw [c8]; rfl) (by decide) ?_
      exact law_leaves C hi hL h hr nx
    by_cases c9 : v = 9
    · refine q_tableIn (off := 488) 521 K dL_law_33 (by rw [c9]; decide) (by rw [c9]; decide) (by rw [c9]; rfl) (by decide) ?_
      exact law_go C hi hL h hr nx
    by_cases c10 : v = 10
    · refine q_tableIn (off := 511) 544 K dL_law_33 (by rw [c10]; decide) (by rw [c10]; decide) (by rw [c10]; rfl) (by decide) ?_
      exact law_now C hi hL h hr nx
    by_cases c11 : v = 11
    · refine q_tableIn (off := 534) 567 K dL_law_33 (by rw [c11]; decide) (by rw [c11]; decide) (by rw [c11]; rfl) (by decide) ?_
      exact law_ahead C hi hL h hr nx
    by_cases c12 : v = 12
    · refine q_tableIn (off := 567) 600 K dL_law_33 (by rw [c12]; decide) (by rw [c12]; decide) (by rw [c12]; rfl) (by decide) ?_
      exact law_stand C hi hL h hr nx
    by_cases c13 : v = 13
    · refine q_tableIn (off := 600) 633 K dL_law_33 (by rw [c13]; decide) (by rw [c13]; decide) (by rw [c13]; rfl) (by decide) ?_
      exact law_where C hi hL h hr nx
    by_cases c14 : v = 14
    · refine q_tableIn (off := 643) 676 K dL_law_33 (by rw [c14]; decide) (by rw [c14]; decide) (by rw [c14]; rfl) (by decide) ?_
      exact law_corn C hi hL h hr nx
    by_cases c15 : v = 15
    · refine q_tableIn (off := 676) 709 K dL_law_33 (by rw [c15]; decide) (by rw [c15]; decide) (by rw [c15]; rfl) (by decide) ?_
      exact law_when C hi hL h hr nx
    by_cases c16 : v = 16
    · refine q_tableIn (off := 709) 742 K dL_law_33 (by rw [c16]; decide) (by rw [c16]; decide) (by rw [c16]; rfl) (by decide) ?_
      exact law_meet C hi hL h hr nx
    by_cases c17 : v = 17
    · refine q_tableIn (off := 742) 775 K dL_law_33 (by rw [c17]; decide) (by rw [c17]; decide) (by rw [c17]; rfl) (by decide) ?_
      exact law_start C hi hL h hr nx
    by_cases c18 : v = 18
    · refine q_tableIn (off := 795) 828 K dL_law_33 (by rw [c18]; decide) (by rw [c18]; decide) (by rw [c18]; rfl) (by decide) ?_
      exact law_kindsFor C hi hL h hr nx
    by_cases c19 : v = 19
    · refine q_tableIn (off := 848) 881 K dL_law_33 (by rw [c19]; decide) (by rw [c19]; decide) (by rw [c19]; rfl) (by decide) ?_
      exact law_moods C hi hL h hr nx
    by_cases c20 : v = 20
    · refine q_tableIn (off := 901) 934 K dL_law_33 (by rw [c20]; decide) (by rw [c20]; decide) (by rw [c20]; rfl) (by decide) ?_
      exact law_windFor C hi hL h hr nx
    by_cases c21 : v = 21
    · refine q_tableIn (off := 944) 977 K dL_law_33 (by rw [c21]; decide) (by rw [c21]; decide) (by rw [c21]; rfl) (by decide) ?_
      exact law_home C hi hL h hr nx
    by_cases c22 : v = 22
    · refine q_tableIn (off := 987) 1020 K dL_law_33 (by rw [c22]; decide) (by rw [c22]; decide) (by rw [c22]; rfl) (by decide) ?_
      exact law_shut C hi hL h hr nx
    by_cases c23 : v = 23
    · refine q_tableIn (off := 1020) 1053 K dL_law_33 (by rw [c23]; decide) (by rw [c23]; decide) (by rw [c23]; rfl) (by decide) ?_
      exact law_who C hi hL h hr nx
    by_cases c24 : v = 24
    · refine q_tableIn (off := 1043) 1076 K dL_law_33 (by rw [c24]; decide) (by rw [c24]; decide) (by rw [c24]; rfl) (by decide) ?_
      exact law_fits C hi hL h hr nx
    by_cases c25 : v = 25
    · refine q_tableIn (off := 1086) 1119 K dL_law_33 (by rw [c25]; decide) (by rw [c25]; decide) (by rw [c25]; rfl) (by decide) ?_
      exact law_kinds C hi hL h hr nx
    by_cases c26 : v = 26
    · refine q_tableIn (off := 1119) 1152 K dL_law_33 (by rw [c26]; decide) (by rw [c26]; decide) (by rw [c26]; rfl) (by decide) ?_
      exact law_gales C hi hL h hr nx
    by_cases c27 : v = 27
    · refine q_tableIn (off := 1142) 1175 K dL_law_33 (by rw [c27]; decide) (by rw [c27]; decide) (by rw [c27]; rfl) (by decide) ?_
      exact law_odds C hi hL h hr nx
    by_cases c28 : v = 28
    · refine q_tableIn (off := 1176) 1209 K dL_law_33 (by rw [c28]; decide) (by rw [c28]; decide) (by rw [c28]; rfl) (by decide) ?_
      exact law_seed C hi hL h hr nx
    by_cases c29 : v = 29
    · refine q_tableIn (off := 1199) 1232 K dL_law_33 (by rw [c29]; decide) (by rw [c29]; decide) (by rw [c29]; rfl) (by decide) ?_
      exact law_feed C hi hL h hr nx
    by_cases c30 : v = 30
    · refine q_tableIn (off := 1232) 1265 K dL_law_33 (by rw [c30]; decide) (by rw [c30]; decide) (by rw [c30]; rfl) (by decide) ?_
      exact law_wipe C hi hL h hr nx
    by_cases c31 : v = 31
    · refine q_tableIn (off := 1245) 1278 K dL_law_33 (by rw [c31]; decide) (by rw [c31]; decide) (by rw [c31]; rfl) (by decide) ?_
      exact law_text C hi hL h hr nx
    by_cases c32 : v = 32
    · refine q_tableIn (off := 1258) 1291 K dL_law_33 (by rw [c32]; decide) (by rw [c32]; decide) (by rw [c32]; rfl) (by decide) ?_
      exact law_hold C hi hL h hr nx
    by_cases c33 : v = 33
    · refine q_tableIn (off := 1291) 1324 K dL_law_33 (by rw [c33]; decide) (by rw [c33]; decide) (by rw [c33]; rfl) (by decide) ?_
      exact law_as C hi hL h hr nx
    by_cases c34 : v = 34
    · refine q_tableIn (off := 1324) 1357 K dL_law_33 (by rw [c34]; decide) (by rw [c34]; decide) (by rw [c34]; rfl) (by decide) ?_
      exact law_sheet C hi hL h hr nx
    by_cases c35 : v = 35
    · refine q_tableIn (off := 1367) 1400 K dL_law_33 (by rw [c35]; decide) (by rw [c35]; decide) (by rw [c35]; rfl) (by decide) ?_
      exact law_write C hi hL h hr nx
    by_cases c36 : v = 36
    · refine q_tableIn (off := 1410) 1443 K dL_law_33 (by rw [c36]; decide) (by rw [c36]; decide) (by rw [c36]; rfl) (by decide) ?_
      exact law_copy C hi hL h hr nx
    by_cases c37 : v = 37
    · refine q_tableIn (off := 1473) 1506 K dL_law_33 (by rw [c37]; decide) (by rw [c37]; decide) (by rw [c37]; rfl) (by decide) ?_
      exact law_load C hi hL h hr nx
    by_cases c38 : v = 38
    · refine q_tableIn (off := 1496) 1529 K dL_law_33 (by rw [c38]; decide) (by rw [c38]; decide) (by rw [c38]; rfl) (by decide) ?_
      exact law_judge C hi hL h hr nx
    by_cases c39 : v = 39
    · refine q_tableIn (off := 1519) 1552 K dL_law_33 (by rw [c39]; decide) (by rw [c39]; decide) (by rw [c39]; rfl) (by decide) ?_
      exact law_image C hi hL h hr nx
    by_cases c40 : v = 40
    · refine q_tableIn (off := 1532) 1565 K dL_law_33 (by rw [c40]; decide) (by rw [c40]; decide) (by rw [c40]; rfl) (by decide) ?_
      exact law_undo C hi hL h hr nx
    by_cases c41 : v = 41
    · refine q_tableIn (off := 1545) 1578 K dL_law_33 (by rw [c41]; decide) (by rw [c41]; decide) (by rw [c41]; rfl) (by decide) ?_
      exact law_tear C hi hL h hr nx
    by_cases c42 : v = 42
    · refine q_tableIn (off := 1558) 1591 K dL_law_33 (by rw [c42]; decide) (by rw [c42]; decide) (by rw [c42]; rfl) (by decide) ?_
      exact law_count C hi hL h hr nx
    by_cases c43 : v = 43
    · refine q_tableIn (off := 1581) 1614 K dL_law_33 (by rw [c43]; decide) (by rw [c43]; decide) (by rw [c43]; rfl) (by decide) ?_
      exact law_status C hi hL h hr nx
    exact q_tableOut 1637 K dL_law_33 (by have := lv_neT (a := 0) c0 rfl; have := lv_neT (a := 1) c1 rfl; have := lv_neT (a := 2) c2 rfl; have := lv_neT (a := 3) c3 rfl; have := lv_neT (a := 4) c4 rfl; have := lv_neT (a := 5) c5 rfl; have := lv_neT (a := 6) c6 rfl; have := lv_neT (a := 7) c7 rfl; have := lv_neT (a := 8) c8 rfl; have := lv_neT (a := 9) c9 rfl; have := lv_neT (a := 10) c10 rfl; have := lv_neT (a := 11) c11 rfl; have := lv_neT (a := 12) c12 rfl; have := lv_neT (a := 13) c13 rfl; have := lv_neT (a := 14) c14 rfl; have := lv_neT (a := 15) c15 rfl; have := lv_neT (a := 16) c16 rfl; have := lv_neT (a := 17) c17 rfl; have := lv_neT (a := 18) c18 rfl; have := lv_neT (a := 19) c19 rfl; have := lv_neT (a := 20) c20 rfl; have := lv_neT (a := 21) c21 rfl; have := lv_neT (a := 22) c22 rfl; have := lv_neT (a := 23) c23 rfl; have := lv_neT (a := 24) c24 rfl; have := lv_neT (a := 25) c25 rfl; have := lv_neT (a := 26) c26 rfl; have := lv_neT (a := 27) c27 rfl; have := lv_neT (a := 28) c28 rfl; have := lv_neT (a := 29) c29 rfl; have := lv_neT (a := 30) c30 rfl; have := lv_neT (a := 31) c31 rfl; have := lv_neT (a := 32) c32 rfl; have := lv_neT (a := 33) c33 rfl; have := lv_neT (a := 34) c34 rfl; have := lv_neT (a := 35) c35 rfl; have := lv_neT (a := 36) c36 rfl; have := lv_neT (a := 37) c37 rfl; have := lv_neT (a := 38) c38 rfl; have := lv_neT (a := 39) c39 rfl; have := lv_neT (a := 40) c40 rfl; have := lv_neT (a := 41) c41 rfl; have := lv_neT (a := 42) c42 rfl; have := lv_neT (a := 43) c43 rfl; omega) (by decide) (nx _ _ _ _ _ h hr)
