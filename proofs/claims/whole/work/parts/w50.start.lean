/-! ===== the start ===== -/
def litT : List Term := [.string "VaryStore" 78, .string "VaryStore" 100, .string "VaryStore" 143, .string "VaryStore" 165, .string "VaryStore" 172, .string "VaryStore" 196, .string "VaryStore" 208, .string "VaryStore" 210, .string "VaryStore" 233, .string "VaryStore" 237, .string "VaryStore" 243, .string "VaryStore" 256, .string "VaryStore" 266, .string "VaryStore" 271, .string "VaryStore" 283, .string "VaryStore" 288, .string "VaryStore" 290, .string "VaryStore" 292, .string "VaryStore$Thing" 64, .string "VaryStore$Thing" 78, .string "VaryStore$Thing" 82, .string "VaryStore$Thing" 84]
def litM (i : Nat) : Term := litT.getD i (.int 0)
def nfL : List Cond := flatC (Jvm.Cond.and given_1 narrow_1)
def pEx : List Nat := [78, 164, 189, 548, 603, 652, 31, 52, 205, 410, 438, 464, 490, 515, 97, 111, 127, 145, 222, 290, 340, 374]
def pCo : List Nat := [79, 165, 190, 549, 604, 653, 32, 53, 206, 411, 439, 465, 491, 516, 98, 112, 128, 146, 223, 291, 341, 375]
def pAr : List Nat := [80, 166, 191, 550, 605, 654, 33, 54, 207, 412, 440, 466, 492, 517, 99, 113, 129, 147, 224, 292, 342, 376]
def pLe : List Nat := [81, 167, 192, 551, 606, 655, 34, 55, 208, 413, 441, 467, 493, 518, 100, 114, 130, 148, 225, 293, 343, 377]
def pEl : List (List Nat) := [[82, 83, 84, 85, 86, 87, 88, 89, 90, 91, 92, 93, 94], [168, 169, 170, 171, 172, 173, 174, 175, 176, 177, 178, 179, 180, 181], [193, 194, 195, 196], [552, 553, 554, 555, 556, 557, 558, 559, 560, 561, 562, 563, 564, 565, 566, 567, 568, 569, 570, 571, 572, 573, 574, 575, 576, 577, 578, 579, 580], [607, 608, 609, 610, 611, 612, 613, 614, 615, 616, 617, 618, 619, 620, 621, 622, 623, 624, 625, 626, 627, 628], [656, 657, 658, 659, 660, 661, 662, 663, 664, 665, 666, 667, 668, 669, 670, 671, 672, 673, 674, 675, 676, 677, 678, 679], [35, 36, 37, 38, 39, 40, 41, 42, 43, 44, 45, 46, 47, 48, 49, 50, 51], [56, 57, 58, 59, 60, 61, 62, 63, 64, 65, 66, 67, 68, 69, 70, 71, 72, 73, 74, 75, 76], [209, 210, 211, 212], [414, 415, 416, 417, 418, 419, 420], [442, 443, 444, 445], [468, 469, 470], [494], [519, 520, 521, 522, 523, 524, 525, 526], [101, 102, 103, 104, 105, 106, 107], [115, 116, 117, 118, 119, 120, 121, 122], [131, 132, 133, 134, 135, 136, 137, 138, 139], [149, 150, 151, 152, 153, 154, 155, 156, 157], [226, 227, 228, 229, 230, 231, 232, 233], [294, 295, 296, 297, 298, 299, 300], [344, 345, 346, 347, 348, 349, 350, 351, 352, 353, 354, 355, 356, 357, 358], [378, 379, 380, 381, 382, 383, 384, 385, 386, 387, 388, 389, 390, 391, 392, 393]]
def pNe : List (List Nat) := [[], [184], [199, 204], [583, 588, 589], [631, 636, 637, 651], [682, 687, 688, 702, 703], [95, 182, 197, 581, 629, 680], [96, 183, 198, 582, 630, 681, 77], [215, 220, 221, 590, 638, 689, 213, 214], [423, 428, 429, 598, 646, 697, 421, 422, 430], [448, 453, 454, 599, 647, 698, 446, 447, 455, 463], [473, 478, 479, 600, 648, 699, 471, 472, 480, 488, 489], [497, 502, 503, 601, 649, 700, 495, 496, 504, 512, 513, 514], [529, 534, 535, 602, 650, 701, 527, 528, 536, 544, 545, 546, 547], [110, 185, 200, 584, 632, 683, 108, 109, 216, 424, 449, 474, 498, 530], [125, 186, 201, 585, 633, 684, 123, 124, 217, 425, 450, 475, 499, 531, 126], [142, 187, 202, 586, 634, 685, 140, 141, 218, 426, 451, 476, 500, 532, 143, 144], [160, 188, 203, 587, 635, 686, 158, 159, 219, 427, 452, 477, 501, 533, 161, 162, 163], [236, 241, 242, 591, 639, 690, 234, 235, 243, 431, 456, 481, 505, 537, 237, 238, 239, 240], [303, 308, 309, 594, 642, 693, 301, 302, 310, 434, 459, 484, 508, 540, 304, 305, 306, 307, 311], [361, 366, 367, 596, 644, 695, 359, 360, 368, 436, 461, 486, 510, 542, 362, 363, 364, 365, 369, 372], [396, 401, 402, 597, 645, 696, 394, 395, 403, 437, 462, 487, 511, 543, 397, 398, 399, 400, 404, 407, 409]]
set_option maxRecDepth 100000 in
theorem st_ex : ∀ i : Nat, i < 22 → nfL[pEx.getD i 0]? = some (Cond.exactly (litM i) "java/lang/String") := by decide +kernel
set_option maxRecDepth 100000 in
theorem st_co : ∀ i : Nat, i < 22 → nfL[pCo.getD i 0]? = some (Cond.eq (.field (litM i) "java/lang/String" "coder" "B") (.int 0)) := by decide +kernel
set_option maxRecDepth 100000 in
theorem st_ar : ∀ i : Nat, i < 22 → nfL[pAr.getD i 0]? = some (Cond.arrayOf (.field (litM i) "java/lang/String" "value" "[B") .byte) := by decide +kernel
set_option maxRecDepth 100000 in
theorem st_le : ∀ i : Nat, i < 22 → nfL[pLe.getD i 0]? = some (Cond.eq (.length (.field (litM i) "java/lang/String" "value" "[B")) (.int (Int32.ofNat (lenLit.getD i 0)))) := by decide +kernel
set_option maxRecDepth 100000 in
theorem st_el : ∀ i : Nat, i < 22 → ∀ j : Nat, j < lenLit.getD i 0 → nfL[(pEl.getD i []).getD j 0]? = some (Cond.eq (.elem (.field (litM i) "java/lang/String" "value" "[B") (.int (Int32.ofNat j))) (.int ((bytLit.getD i []).getD j 0))) := by decide +kernel
set_option maxRecDepth 100000 in
theorem st_ne : ∀ i : Nat, i < 22 → ∀ j : Nat, j < i → (nfL[(pNe.getD i []).getD j 0]? = some (Cond.not (Cond.eq (litM i) (litM j))) ∨ nfL[(pNe.getD i []).getD j 0]? = some (Cond.not (Cond.eq (litM j) (litM i)))) := by decide +kernel
set_option maxRecDepth 100000 in
theorem st_n31 : ∀ i : Nat, i < 22 → lenLit.getD i 0 < 2 ^ 31 := by decide +kernel
theorem va_eqL {args : Array Value} {s : State} {t u : Term} {a : Nat} (h : (Cond.eq t u).before args s = true) (hu : u.eval args s none [] s = some (.ref a)) : t.eval args s none [] s = some (.ref a) := by
  cases ht : t.eval args s none [] s with
  | none => simp [Cond.before, Cond.holds, Cond.value, ht] at h
  | some w =>
    simp only [Cond.before, Cond.holds, Cond.value, ht, hu] at h
    cases w <;> simp_all
set_option maxRecDepth 100000 in
theorem st_lits {s : State} {args : Array Value} (hts : ∀ w ∈ lw_tbl, w.before args s = true) (hs : ∀ c ∈ nfL, c.before args s = true) : ∃ adK adV : Nat → Nat, vk_S nLit lenLit bytLit adK adV (fun q => s.heap.size ≤ q) s s.heap ∧ ∀ q ∈ litL, vk_R q.1 q.2.1 q.2.2.1 (adK q.2.2.2) s := by
  obtain ⟨adK, adV, h1, hev⟩ := vk_Sof (args := args) (s := s) (N := nLit) (tm := litM) (len := lenLit) (byt := bytLit) (A := fun q => s.heap.size ≤ q) st_n31 (fun i hi => hs _ (List.mem_of_getElem? (st_ex i hi))) (fun i hi => hs _ (List.mem_of_getElem? (st_co i hi))) (fun i hi => hs _ (List.mem_of_getElem? (st_ar i hi))) (fun i hi => hs _ (List.mem_of_getElem? (st_le i hi))) (fun i hi j hj => hs _ (List.mem_of_getElem? (st_el i hi j hj)))
    (fun i j hi hj hij => by
      rcases Nat.lt_or_gt_of_ne hij with h | h
      · rcases st_ne j hj i h with h9 | h9
        · exact Or.inr (hs _ (List.mem_of_getElem? h9))
        · exact Or.inl (hs _ (List.mem_of_getElem? h9))
      · rcases st_ne i hi j h with h9 | h9
        · exact Or.inl (hs _ (List.mem_of_getElem? h9))
        · exact Or.inr (hs _ (List.mem_of_getElem? h9))) (fun a ha h => absurd (show s.heap.size ≤ a from h) (Nat.not_le.mpr ha))
  refine ⟨adK, adV, h1, ?_⟩
  intro q hq
  simp only [litL, List.mem_cons, List.not_mem_nil, or_false] at hq
  rcases hq with rfl | rfl | rfl | rfl | rfl | rfl | rfl | rfl | rfl | rfl | rfl | rfl | rfl | rfl | rfl | rfl | rfl | rfl | rfl | rfl | rfl | rfl | rfl | rfl | rfl
  · exact vk_R.of (hts (Cond.stringRef "VaryStore" 78 "cache-control") (List.mem_of_getElem? (i := 334) (by decide +kernel))) (hev 0 (by decide))
  · exact vk_R.of (hts (Cond.stringRef "VaryStore" 100 "only-if-cached") (List.mem_of_getElem? (i := 504) (by decide +kernel))) (hev 1 (by decide))
  · exact vk_R.of (hts (Cond.stringRef "VaryStore" 143 "etag") (List.mem_of_getElem? (i := 591) (by decide +kernel))) (hev 2 (by decide))
  · exact vk_R.of (hts (Cond.stringRef "VaryStore" 165 "so many seconds can not go by") (List.mem_of_getElem? (i := 671) (by decide +kernel))) (hev 3 (by decide))
  · exact vk_R.of (hts (Cond.stringRef "VaryStore" 172 "there is no such thing") (List.mem_of_getElem? (i := 689) (by decide +kernel))) (hev 4 (by decide))
  · exact vk_R.of (hts (Cond.stringRef "VaryStore" 196 "a thing has nothing such") (List.mem_of_getElem? (i := 699) (by decide +kernel))) (hev 5 (by decide))
  · exact vk_R.of (hts (Cond.stringRef "VaryStore" 208 "the text is wrong") (List.mem_of_getElem? (i := 306) (by decide +kernel))) (hev 6 (by decide))
  · exact vk_R.of (hts (Cond.stringRef "VaryStore" 210 "there is no such path") (List.mem_of_getElem? (i := 333) (by decide +kernel))) (hev 7 (by decide))
  · exact vk_R.of (hts (Cond.stringRef "VaryStore" 233 "vary") (List.mem_of_getElem? (i := 593) (by decide +kernel))) (hev 8 (by decide))
  · exact vk_R.of (hts (Cond.stringRef "VaryStore" 237 "expires") (List.mem_of_getElem? (i := 616) (by decide +kernel))) (hev 9 (by decide))
  · exact vk_R.of (hts (Cond.stringRef "VaryStore" 243 "date") (List.mem_of_getElem? (i := 622) (by decide +kernel))) (hev 10 (by decide))
  · exact vk_R.of (hts (Cond.stringRef "VaryStore" 256 "age") (List.mem_of_getElem? (i := 624) (by decide +kernel))) (hev 11 (by decide))
  · exact vk_R.of (hts (Cond.stringRef "VaryStore" 266 "*") (List.mem_of_getElem? (i := 633) (by decide +kernel))) (hev 12 (by decide))
  · exact vk_R.of (hts (Cond.stringRef "VaryStore" 271 "no-store") (List.mem_of_getElem? (i := 638) (by decide +kernel))) (hev 13 (by decide))
  · exact vk_R.of (hts (Cond.stringRef "VaryStore" 283 "max-age") (List.mem_of_getElem? (i := 467) (by decide +kernel))) (hev 14 (by decide))
  · exact vk_R.of (hts (Cond.stringRef "VaryStore" 288 "no-cache") (List.mem_of_getElem? (i := 487) (by decide +kernel))) (hev 15 (by decide))
  · exact vk_R.of (hts (Cond.stringRef "VaryStore" 290 "max-stale") (List.mem_of_getElem? (i := 493) (by decide +kernel))) (hev 16 (by decide))
  · exact vk_R.of (hts (Cond.stringRef "VaryStore" 292 "min-fresh") (List.mem_of_getElem? (i := 499) (by decide +kernel))) (hev 17 (by decide))
  · exact vk_R.of (hts (Cond.stringRef "VaryStore$Thing" 64 "s-maxage") (List.mem_of_getElem? (i := 603) (by decide +kernel))) (hev 18 (by decide))
  · exact vk_R.of (hts (Cond.stringRef "VaryStore$Thing" 70 "max-age") (List.mem_of_getElem? (i := 605) (by decide +kernel))) (va_eqR (t := litM 14) (hs _ (List.mem_of_getElem? (i := 258) (show nfL[258]? = some (Cond.eq (litM 14) (.string "VaryStore$Thing" 70)) by decide +kernel))) (hev 14 (by decide)))
  · exact vk_R.of (hts (Cond.stringRef "VaryStore$Thing" 72 "no-store") (List.mem_of_getElem? (i := 606) (by decide +kernel))) (va_eqL (u := litM 13) (hs _ (List.mem_of_getElem? (i := 539) (show nfL[539]? = some (Cond.eq (.string "VaryStore$Thing" 72) (litM 13)) by decide +kernel))) (hev 13 (by decide)))
  · exact vk_R.of (hts (Cond.stringRef "VaryStore$Thing" 78 "private") (List.mem_of_getElem? (i := 608) (by decide +kernel))) (hev 19 (by decide))
  · exact vk_R.of (hts (Cond.stringRef "VaryStore$Thing" 80 "no-cache") (List.mem_of_getElem? (i := 609) (by decide +kernel))) (va_eqR (t := litM 15) (hs _ (List.mem_of_getElem? (i := 330) (show nfL[330]? = some (Cond.eq (litM 15) (.string "VaryStore$Thing" 80)) by decide +kernel))) (hev 15 (by decide)))
  · exact vk_R.of (hts (Cond.stringRef "VaryStore$Thing" 82 "must-revalidate") (List.mem_of_getElem? (i := 610) (by decide +kernel))) (hev 20 (by decide))
  · exact vk_R.of (hts (Cond.stringRef "VaryStore$Thing" 84 "proxy-revalidate") (List.mem_of_getElem? (i := 611) (by decide +kernel))) (hev 21 (by decide))
theorem ar_p {s : State} {args : Array Value} {ty : FieldType} (hty : ∀ C, ty ≠ .object C) (h : (Cond.arrayClass ty).before args s = true) : ∃ cA : ClassId, ArrOfT s cA ty ∧ va_RA s cA ty := by
  obtain ⟨c, k, comp, h1, h2, h3⟩ := Cond.arrayClass_spec h
  refine ⟨c, fun N z => ⟨(fun k h => by cases h), k, h2, comp, h3⟩, ?_⟩
  cases ty with
  | object C => exact absurd rfl (hty C)
  | _ => exact h1
theorem ar_o {s : State} {args : Array Value} {C : String} (h : (Cond.arrayOver (.object C)).before args s = true) : ∃ cA : ClassId, ArrOfT s cA (.object C) ∧ va_RA s cA (.object C) := by
  obtain ⟨comp, c, k, h1, h2, h3, h4, h5⟩ := Cond.arrayOver_spec h
  exact ⟨c, fun N z => ⟨(fun k h => by cases h), k, h3, comp, h4⟩, k, comp, h3, h4, h1, h5⟩
theorem ar_a {s : State} {args : Array Value} {t : FieldType} (h : (Cond.arrayOver (.array t)).before args s = true) : ∃ cA : ClassId, ArrOfT s cA (.array t) ∧ va_RA s cA (.array t) := by
  obtain ⟨comp, c, k, h1, h2, h3, h4, h5⟩ := arrayOverA_spec h
  exact ⟨c, fun N z => ⟨(fun k h => by cases h), k, h3, comp, h4⟩, h5⟩
set_option maxRecDepth 100000 in
set_option maxHeartbeats 4000000 in
theorem st_K {s : State} {args : Array Value} (hts : ∀ w ∈ lw_tbl, w.before args s = true) : ∃ (D : va_G) (dA : Nat → ClassId), va_K D cls (tyL dA) s := by
  obtain ⟨c0, i0, k0⟩ := u_known (C := R_VS) (T := F_VS) (N := 11) (n := 11) hts (fun w hw => (List.mem_filter.mp (uw_VS w hw)).1) (hts (Cond.instantiable "VaryStore" 11) (List.mem_of_getElem? (i := 51) (by decide +kernel)))
  obtain ⟨c1, i1, k1⟩ := u_known (C := R_It) (T := F_It) (N := 3) (n := 3) hts (fun w hw => (List.mem_filter.mp (uw_It w hw)).1) (hts (Cond.instantiable "VaryStore$Items" 3) (List.mem_of_getElem? (i := 120) (by decide +kernel)))
  obtain ⟨c2, i2, k2⟩ := u_known (C := R_Ro) (T := F_Ro) (N := 2) (n := 2) hts (fun w hw => (List.mem_filter.mp (uw_Ro w hw)).1) (hts (Cond.instantiable "VaryStore$Row" 2) (List.mem_of_getElem? (i := 59) (by decide +kernel)))
  obtain ⟨c3, i3, k3⟩ := u_known (C := R_Sh) (T := F_Sh) (N := 3) (n := 3) hts (fun w hw => (List.mem_filter.mp (uw_Sh w hw)).1) (hts (Cond.instantiable "VaryStore$Shelf" 3) (List.mem_of_getElem? (i := 76) (by decide +kernel)))
  obtain ⟨c4, i4, k4⟩ := u_known (C := R_Te) (T := F_Te) (N := 5) (n := 5) hts (fun w hw => (List.mem_filter.mp (uw_Te w hw)).1) (hts (Cond.instantiable "VaryStore$Text" 5) (List.mem_of_getElem? (i := 95) (by decide +kernel)))
  obtain ⟨c5, i5, k5⟩ := u_known (C := R_Th) (T := F_Th) (N := 13) (n := 13) hts (fun w hw => (List.mem_filter.mp (uw_Th w hw)).1) (hts (Cond.instantiable "VaryStore$Thing" 13) (List.mem_of_getElem? (i := 516) (by decide +kernel)))
  obtain ⟨c6, i6, k6⟩ := u_known (C := R_Mo) (T := F_Mo) (N := 9) (n := 9) hts (fun w hw => (List.mem_filter.mp (uw_Mo w hw)).1) (hts (Cond.instantiable "VaryStoreModel" 9) (List.mem_of_getElem? (i := 702) (by decide +kernel)))
  obtain ⟨c7, i7, k7⟩ := u_known (C := R_MT) (T := F_MT) (N := 5) (n := 5) hts (fun w hw => (List.mem_filter.mp (uw_MT w hw)).1) (hts (Cond.instantiable "VaryStoreModel$Text" 5) (List.mem_of_getElem? (i := 708) (by decide +kernel)))
  obtain ⟨c8, i8, k8⟩ := u_known (C := R_Mg) (T := F_Mg) (N := 12) (n := 12) hts (fun w hw => (List.mem_filter.mp (uw_Mg w hw)).1) (hts (Cond.instantiable "VaryStoreModel$Thing" 12) (List.mem_of_getElem? (i := 870) (by decide +kernel)))
  obtain ⟨a0, f0, g0⟩ := ar_p (ty := .char) (fun C h => by cases h) (hts (Cond.arrayClass .char) (List.mem_of_getElem? (i := 74) (by decide +kernel)))
  obtain ⟨a1, f1, g1⟩ := ar_p (ty := .int) (fun C h => by cases h) (hts (Cond.arrayClass .int) (List.mem_of_getElem? (i := 118) (by decide +kernel)))
  obtain ⟨a2, f2, g2⟩ := ar_o (C := "VaryStore$Thing") (hts (Cond.arrayOver (.object "VaryStore$Thing")) (List.mem_of_getElem? (i := 82) (by decide +kernel)))
  obtain ⟨a3, f3, g3⟩ := ar_p (ty := .long) (fun C h => by cases h) (hts (Cond.arrayClass .long) (List.mem_of_getElem? (i := 986) (by decide +kernel)))
  obtain ⟨a4, f4, g4⟩ := ar_o (C := "VaryStoreModel$Thing") (hts (Cond.arrayOver (.object "VaryStoreModel$Thing")) (List.mem_of_getElem? (i := 734) (by decide +kernel)))
  obtain ⟨a5, f5, g5⟩ := ar_a (t := .int) (hts (Cond.arrayOver (.array .int)) (List.mem_of_getElem? (i := 823) (by decide +kernel)))
  refine ⟨(fun k => if k = 0 then c0 else if k = 1 then c1 else if k = 2 then c2 else if k = 3 then c3 else if k = 4 then c4 else if k = 5 then c5 else if k = 6 then c6 else if k = 7 then c7 else c8, fun k => if k = 0 then i0 else if k = 1 then i1 else if k = 2 then i2 else if k = 3 then i3 else if k = 4 then i4 else if k = 5 then i5 else if k = 6 then i6 else if k = 7 then i7 else i8), fun k => if k = 0 then a0 else if k = 1 then a1 else if k = 2 then a2 else if k = 3 then a3 else if k = 4 then a4 else a5, ?_, ?_⟩
  · intro k q hq
    match k, hq with
    | 0, hq => cases hq; exact k0
    | 1, hq => cases hq; exact k1
    | 2, hq => cases hq; exact k2
    | 3, hq => cases hq; exact k3
    | 4, hq => cases hq; exact k4
    | 5, hq => cases hq; exact k5
    | 6, hq => cases hq; exact k6
    | 7, hq => cases hq; exact k7
    | 8, hq => cases hq; exact k8
    | k + 9, hq => simp [cls] at hq
  · intro k q hq
    match k, hq with
    | 0, hq => cases hq; exact ⟨f0, g0⟩
    | 1, hq => cases hq; exact ⟨f1, g1⟩
    | 2, hq => cases hq; exact ⟨f2, g2⟩
    | 3, hq => cases hq; exact ⟨f3, g3⟩
    | 4, hq => cases hq; exact ⟨f4, g4⟩
    | 5, hq => cases hq; exact ⟨f5, g5⟩
    | k + 6, hq => simp [tyL] at hq
set_option maxRecDepth 100000 in
set_option maxHeartbeats 4000000 in
theorem st_Z {s : State} {args : Array Value} (l : Launch) (D : va_G) (dA : Nat → ClassId) (hts : ∀ w ∈ lw_tbl, w.before args s = true) (hs : ∀ c ∈ nfL, c.before args s = true) : ∃ adK adV : Nat → Nat, ZL (l, D, dA, adK, adV) (fun q => s.heap.size ≤ q) s s.heap := by
  obtain ⟨adK, adV, h1, h2⟩ := st_lits hts hs
  refine ⟨adK, adV, h1, h2, ?_, ?_, ?_, ?_, ?_⟩
  · exact va_Zof (args := args) (hts (Cond.laysStatic "java/lang/String" "COMPACT_STRINGS" "Z") (List.mem_of_getElem? (i := 356) (by decide +kernel))) (hts (Cond.initialized "java/lang/String") (List.mem_of_getElem? (i := 43) (by decide +kernel))) (va_eqi (show (Cond.eq (.static "java/lang/String" "COMPACT_STRINGS" "Z") (.int 1)).before args s = true from (hs _ (List.mem_of_getElem? (i := 6) (by decide +kernel))))) (fun a ha h => absurd (show s.heap.size ≤ a from h) (Nat.not_le.mpr ha))
  · exact vx_Zqof (args := args) (hts (Cond.laysStatic "java/lang/Throwable" "UNASSIGNED_STACK" "[Ljava/lang/StackTraceElement;") (List.mem_of_getElem? (i := 293) (by decide +kernel))) (hts (Cond.initialized "java/lang/Throwable") (List.mem_of_getElem? (i := 39) (by decide +kernel))) (show (Cond.isRef (.static "java/lang/Throwable" "UNASSIGNED_STACK" "[Ljava/lang/StackTraceElement;")).before args s = true from (hs _ (List.mem_of_getElem? (i := 4) (by decide +kernel)))) (fun a ha h => absurd (show s.heap.size ≤ a from h) (Nat.not_le.mpr ha))
  · exact vx_Zqof (args := args) (hts (Cond.laysStatic "java/lang/Throwable" "SUPPRESSED_SENTINEL" "Ljava/util/List;") (List.mem_of_getElem? (i := 295) (by decide +kernel))) (hts (Cond.initialized "java/lang/Throwable") (List.mem_of_getElem? (i := 39) (by decide +kernel))) (show (Cond.isRef (.static "java/lang/Throwable" "SUPPRESSED_SENTINEL" "Ljava/util/List;")).before args s = true from (hs _ (List.mem_of_getElem? (i := 5) (by decide +kernel)))) (fun a ha h => absurd (show s.heap.size ≤ a from h) (Nat.not_le.mpr ha))
  · exact fun w hw => nb_args (List.mem_filter.mp hw).2 rfl (hts w (List.mem_filter.mp hw).1)
  · exact va_Zqof (args := args) (hts (Cond.laysStatic "jdk/internal/util/Preconditions" "SIOOBE_FORMATTER" "Ljava/util/function/BiFunction;") (List.mem_of_getElem? (i := 372) (by decide +kernel))) (hts (Cond.initialized "jdk/internal/util/Preconditions") (List.mem_of_getElem? (i := 45) (by decide +kernel))) (show (Cond.isRef (.static "jdk/internal/util/Preconditions" "SIOOBE_FORMATTER" "Ljava/util/function/BiFunction;")).before args s = true from (hs _ (List.mem_of_getElem? (i := 7) (by decide +kernel)))) (fun a ha h => absurd (show s.heap.size ≤ a from h) (Nat.not_le.mpr ha))
