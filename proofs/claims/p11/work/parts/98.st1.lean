section

end
section START
abbrev gvN : Jvm.Cond := Jvm.Cond.and given_1 narrow_1
theorem st_T {args : Array Value} {s : State} (hts : ∀ w ∈ lw_tbl, w.before args s = true) : ∀ w ∈ xT, w.before args s = true := by
  intro w hw
  rcases List.mem_append.mp (List.mem_filter.mp hw).1 with h | h
  · exact xpsel_ok (fun w hw => hts w (List.mem_append_right _ hw)) w h
  · exact hts w h
/-- by which word a kind is known -/
def xkW (e : vw_C ⊕ FieldType) : Prop := match e with
  | .inl q => ∃ n, Cond.instantiable q.1 n ∈ xT
  | .inr ty => (∃ C, ty = .object C ∧ Cond.arrayOver (.object C) ∈ xT) ∨ ((∀ C, ty ≠ .object C) ∧ Cond.arrayClass ty ∈ xT)
theorem xk_w : ∀ e ∈ xk, xkW e := List.forall_mem_cons.mpr ⟨⟨_, xw_35⟩, List.forall_mem_cons.mpr ⟨⟨_, xw_43⟩, List.forall_mem_cons.mpr ⟨⟨_, xw_80⟩, List.forall_mem_cons.mpr ⟨⟨_, xw_113⟩, List.forall_mem_cons.mpr ⟨⟨_, xw_466⟩, List.forall_mem_cons.mpr ⟨⟨_, xw_491⟩, List.forall_mem_cons.mpr ⟨⟨_, xw_699⟩, List.forall_mem_cons.mpr ⟨⟨_, xw_714⟩, List.forall_mem_cons.mpr ⟨⟨_, xw_824⟩, List.forall_mem_cons.mpr ⟨⟨_, xw_830⟩, List.forall_mem_cons.mpr ⟨⟨_, xw_937⟩, List.forall_mem_cons.mpr ⟨⟨_, xw_964⟩, List.forall_mem_cons.mpr ⟨⟨_, xw_1013⟩, List.forall_mem_cons.mpr ⟨⟨_, xw_1086⟩, List.forall_mem_cons.mpr ⟨⟨_, xw_1135⟩, List.forall_mem_cons.mpr ⟨⟨_, xw_1165⟩, List.forall_mem_cons.mpr ⟨Or.inr ⟨(fun _ hz => by cases hz), xw_74⟩, List.forall_mem_cons.mpr ⟨Or.inr ⟨(fun _ hz => by cases hz), xw_111⟩, List.forall_mem_cons.mpr ⟨Or.inr ⟨(fun _ hz => by cases hz), xw_110⟩, List.forall_mem_cons.mpr ⟨Or.inr ⟨(fun _ hz => by cases hz), xw_1327⟩, List.forall_mem_cons.mpr ⟨Or.inl ⟨_, rfl, xw_76⟩, List.forall_mem_cons.mpr ⟨Or.inl ⟨_, rfl, xw_78⟩, List.forall_mem_cons.mpr ⟨Or.inl ⟨_, rfl, xw_1079⟩, List.forall_mem_cons.mpr ⟨Or.inr ⟨(fun _ hz => by cases hz), xw_74⟩, List.forall_mem_cons.mpr ⟨Or.inr ⟨(fun _ hz => by cases hz), xw_110⟩, List.forall_mem_cons.mpr ⟨Or.inr ⟨(fun _ hz => by cases hz), xw_110⟩, List.forall_mem_cons.mpr ⟨Or.inr ⟨(fun _ hz => by cases hz), xw_110⟩, List.forall_mem_cons.mpr ⟨Or.inr ⟨(fun _ hz => by cases hz), xw_110⟩, List.forall_mem_cons.mpr ⟨Or.inr ⟨(fun _ hz => by cases hz), xw_110⟩, List.forall_mem_cons.mpr ⟨Or.inr ⟨(fun _ hz => by cases hz), xw_111⟩, List.forall_mem_cons.mpr ⟨Or.inr ⟨(fun _ hz => by cases hz), xw_111⟩, List.forall_mem_cons.mpr ⟨Or.inr ⟨(fun _ hz => by cases hz), xw_111⟩, List.forall_mem_cons.mpr ⟨Or.inr ⟨(fun _ hz => by cases hz), xw_111⟩, List.forall_mem_cons.mpr ⟨Or.inr ⟨(fun _ hz => by cases hz), xw_111⟩, List.forall_mem_cons.mpr ⟨Or.inr ⟨(fun _ hz => by cases hz), xw_111⟩, List.forall_mem_cons.mpr ⟨Or.inr ⟨(fun _ hz => by cases hz), xw_111⟩, List.forall_mem_cons.mpr ⟨Or.inr ⟨(fun _ hz => by cases hz), xw_111⟩, List.forall_mem_cons.mpr ⟨Or.inr ⟨(fun _ hz => by cases hz), xw_111⟩, List.forall_mem_cons.mpr ⟨Or.inr ⟨(fun _ hz => by cases hz), xw_111⟩, List.forall_mem_cons.mpr ⟨Or.inr ⟨(fun _ hz => by cases hz), xw_111⟩, List.forall_mem_cons.mpr ⟨Or.inr ⟨(fun _ hz => by cases hz), xw_111⟩, List.forall_mem_cons.mpr ⟨Or.inr ⟨(fun _ hz => by cases hz), xw_111⟩, List.forall_mem_cons.mpr ⟨Or.inr ⟨(fun _ hz => by cases hz), xw_110⟩, List.forall_mem_cons.mpr ⟨Or.inr ⟨(fun _ hz => by cases hz), xw_1327⟩, List.forall_mem_cons.mpr ⟨Or.inr ⟨(fun _ hz => by cases hz), xw_110⟩, List.forall_mem_cons.mpr ⟨Or.inr ⟨(fun _ hz => by cases hz), xw_111⟩, List.forall_mem_cons.mpr ⟨Or.inr ⟨(fun _ hz => by cases hz), xw_111⟩, List.forall_mem_cons.mpr ⟨Or.inr ⟨(fun _ hz => by cases hz), xw_111⟩, List.forall_mem_cons.mpr ⟨Or.inr ⟨(fun _ hz => by cases hz), xw_111⟩, List.forall_mem_cons.mpr ⟨Or.inr ⟨(fun _ hz => by cases hz), xw_111⟩, List.forall_mem_cons.mpr ⟨Or.inr ⟨(fun _ hz => by cases hz), xw_111⟩, List.forall_mem_cons.mpr ⟨Or.inr ⟨(fun _ hz => by cases hz), xw_111⟩, List.forall_mem_cons.mpr ⟨Or.inr ⟨(fun _ hz => by cases hz), xw_111⟩, List.forall_mem_cons.mpr ⟨Or.inr ⟨(fun _ hz => by cases hz), xw_111⟩, List.forall_mem_cons.mpr ⟨Or.inr ⟨(fun _ hz => by cases hz), xw_111⟩, List.forall_mem_cons.mpr ⟨Or.inr ⟨(fun _ hz => by cases hz), xw_110⟩, List.forall_mem_cons.mpr ⟨Or.inr ⟨(fun _ hz => by cases hz), xw_111⟩, List.forall_mem_cons.mpr ⟨Or.inr ⟨(fun _ hz => by cases hz), xw_111⟩, List.forall_mem_cons.mpr ⟨Or.inr ⟨(fun _ hz => by cases hz), xw_111⟩, List.forall_mem_cons.mpr ⟨Or.inr ⟨(fun _ hz => by cases hz), xw_111⟩, List.forall_mem_cons.mpr ⟨Or.inr ⟨(fun _ hz => by cases hz), xw_111⟩, List.forall_mem_cons.mpr ⟨Or.inr ⟨(fun _ hz => by cases hz), xw_111⟩, List.forall_mem_cons.mpr ⟨Or.inr ⟨(fun _ hz => by cases hz), xw_110⟩, List.forall_mem_cons.mpr ⟨Or.inr ⟨(fun _ hz => by cases hz), xw_111⟩, List.forall_mem_cons.mpr ⟨Or.inr ⟨(fun _ hz => by cases hz), xw_1327⟩, List.forall_mem_cons.mpr ⟨Or.inr ⟨(fun _ hz => by cases hz), xw_111⟩, List.forall_mem_cons.mpr ⟨Or.inr ⟨(fun _ hz => by cases hz), xw_1327⟩, List.forall_mem_cons.mpr ⟨Or.inr ⟨(fun _ hz => by cases hz), xw_111⟩, List.forall_mem_cons.mpr ⟨Or.inr ⟨(fun _ hz => by cases hz), xw_111⟩, List.forall_mem_cons.mpr ⟨Or.inr ⟨(fun _ hz => by cases hz), xw_111⟩, List.forall_mem_cons.mpr ⟨Or.inr ⟨(fun _ hz => by cases hz), xw_111⟩, List.forall_mem_cons.mpr ⟨Or.inr ⟨(fun _ hz => by cases hz), xw_111⟩, fun _ hz => by cases hz⟩⟩⟩⟩⟩⟩⟩⟩⟩⟩⟩⟩⟩⟩⟩⟩⟩⟩⟩⟩⟩⟩⟩⟩⟩⟩⟩⟩⟩⟩⟩⟩⟩⟩⟩⟩⟩⟩⟩⟩⟩⟩⟩⟩⟩⟩⟩⟩⟩⟩⟩⟩⟩⟩⟩⟩⟩⟩⟩⟩⟩⟩⟩⟩⟩⟩⟩⟩⟩⟩⟩⟩
theorem st_known {args : Array Value} {s : State} (hT : ∀ w ∈ xT, w.before args s = true) : ∃ D : va_G, xK D s := by
  have h0 : ∀ k : Nat, ∃ q : ClassId × (Nat → Nat), ∀ r, xk[k]? = some r → match r with
      | .inl z => u_Kn s z.1 z.2.1 z.2.2 q.1 q.2
      | .inr ty => ArrOfT s q.1 ty ∧ va_RA s q.1 ty ∧ ∀ j : Nat, q.2 j = j := by
    intro k
    cases hk : xk[k]? with
    | none => exact ⟨(0, id), fun r hr => by cases hr⟩
    | some r =>
      have hw := xk_w r (List.mem_of_getElem? hk)
      cases r with
      | inl q =>
        obtain ⟨C, T, N⟩ := q
        obtain ⟨n, hn⟩ := hw
        obtain ⟨cC, iS, hu⟩ := u_known (ws := xT) hT (xk_lay hk) (hT _ hn)
        exact ⟨(cC, iS), fun r hr => by cases hr; exact hu⟩
      | inr ty =>
        rcases hw with ⟨C, rfl, hw⟩ | ⟨hno, hw⟩
        · obtain ⟨comp, c, k, f1, f2, f3, f4, f5⟩ := Cond.arrayOver_spec (hT _ hw)
          exact ⟨(c, id), fun r hr => by cases hr; exact ⟨fun n z => ⟨fun k h => (by cases h), k, f3, comp, f4⟩, ⟨k, comp, f3, f4, f1, f5⟩, fun j => rfl⟩⟩
        · obtain ⟨c, k, comp, f1, f2, f3⟩ := Cond.arrayClass_spec (hT _ hw)
          have hra : va_RA s c ty := by
            revert hno f1
            clear hw f3 hk
            intro hno f1
            cases ty <;> first | exact f1 | exact absurd rfl (hno _)
          exact ⟨(c, id), fun r hr => by cases hr; exact ⟨fun n z => ⟨fun k h => (by cases h), k, f2, comp, f3⟩, hra, fun j => rfl⟩⟩
  obtain ⟨f, hf⟩ := Classical.axiomOfChoice h0
  exact ⟨(fun k => (f k).1, fun k => (f k).2), fun k r hr => hf k r hr⟩
/-- what is given of a String constant -/
def sCds (own : String) (idx : Nat) (cs : List Nat) : List Jvm.Cond := [.exactly (.string own idx) "java/lang/String", .eq (.field (.string own idx) "java/lang/String" "coder" "B") (.int 0), .arrayOf (.field (.string own idx) "java/lang/String" "value" "[B") .byte, .eq (.length (.field (.string own idx) "java/lang/String" "value" "[B")) (.int (Int32.ofNat cs.length))] ++ (List.range cs.length).map (fun j => .eq (.elem (.field (.string own idx) "java/lang/String" "value" "[B") (.int (Int32.ofNat j))) (.int (Int32.ofNat (cs.getD j 0))))
theorem st_mem {own : String} {idx : Nat} {cs ps : List Nat} (h : (sCds own idx cs).map some = ps.map (fun i => (flatC gvN)[i]?)) : ∀ w ∈ sCds own idx cs, w ∈ flatC gvN := by
  intro w hw
  have h1 : some w ∈ ps.map (fun i => (flatC gvN)[i]?) := by rw [← h]; exact List.mem_map.mpr ⟨w, hw, rfl⟩
  obtain ⟨i, -, hi⟩ := List.mem_map.mp h1
  exact List.mem_of_getElem? hi
theorem st_s0 : (sCds "java/util/Arrays" 337 (xtx 0)).map some = ([268, 269, 270, 271, 272, 273, 274] : List Nat).map (fun i => (flatC gvN)[i]?) := by decide +kernel
theorem st_s1 : (sCds "java/util/Arrays" 48 (xtx 1)).map some = ([275, 276, 277, 278, 279, 280, 281, 282, 283, 284, 285, 286, 287, 288] : List Nat).map (fun i => (flatC gvN)[i]?) := by decide +kernel
theorem st_s2 : (sCds "java/util/Arrays" 57 (xtx 2)).map some = ([289, 290, 291, 292, 293, 294, 295, 296, 297, 298, 299, 300, 301, 302, 303, 304] : List Nat).map (fun i => (flatC gvN)[i]?) := by decide +kernel
theorem st_s3 : (sCds "java/util/Arrays" 59 (xtx 3)).map some = ([305, 306, 307, 308, 309] : List Nat).map (fun i => (flatC gvN)[i]?) := by decide +kernel
theorem st_s4 : (sCds "MarkerText" 216 (xtx 4)).map some = ([310, 311, 312, 313, 314, 315] : List Nat).map (fun i => (flatC gvN)[i]?) := by decide +kernel
theorem st_s5 : (sCds "MarkerText" 222 (xtx 5)).map some = ([316, 317, 318, 319, 320, 321, 322] : List Nat).map (fun i => (flatC gvN)[i]?) := by decide +kernel
theorem st_s6 : (sCds "MarkerText" 224 (xtx 6)).map some = ([323, 324, 325, 326, 327, 328, 329] : List Nat).map (fun i => (flatC gvN)[i]?) := by decide +kernel
theorem st_s7 : (sCds "MarkerText" 226 (xtx 7)).map some = ([330, 331, 332, 333, 334, 335] : List Nat).map (fun i => (flatC gvN)[i]?) := by decide +kernel
theorem st_s8 : (sCds "MarkerText" 228 (xtx 8)).map some = ([336, 337, 338, 339, 340, 341, 342, 343] : List Nat).map (fun i => (flatC gvN)[i]?) := by decide +kernel
theorem st_s9 : (sCds "MarkerText" 230 (xtx 9)).map some = ([344, 345, 346, 347, 348, 349, 350, 351, 352] : List Nat).map (fun i => (flatC gvN)[i]?) := by decide +kernel
theorem st_s10 : (sCds "MarkerText" 78 (xtx 10)).map some = ([353, 354, 355, 356, 357, 358, 359, 360, 361, 362, 363, 364, 365, 366, 367] : List Nat).map (fun i => (flatC gvN)[i]?) := by decide +kernel
theorem st_s11 : (sCds "MarkerText" 83 (xtx 11)).map some = ([368, 369, 370, 371, 372, 373, 374, 375, 376, 377, 378, 379, 380, 381, 382, 383] : List Nat).map (fun i => (flatC gvN)[i]?) := by decide +kernel
theorem st_s12 : (sCds "MarkerText" 87 (xtx 12)).map some = ([384, 385, 386, 387, 388, 389, 390, 391, 392, 393, 394, 395, 396, 397, 398, 399, 400, 401] : List Nat).map (fun i => (flatC gvN)[i]?) := by decide +kernel
theorem st_s13 : (sCds "MarkerText" 97 (xtx 13)).map some = ([402, 403, 404, 405, 406, 407, 408, 409, 410, 411, 412, 413, 414, 415, 416, 417] : List Nat).map (fun i => (flatC gvN)[i]?) := by decide +kernel
theorem st_s14 : (sCds "MarkerText$Name" 33 (xtx 14)).map some = ([418, 419, 420, 421, 422, 423, 424, 425, 426, 427, 428, 429, 430, 431, 432, 433, 434, 435, 436, 437, 438, 439, 440, 441, 442, 443, 444, 445, 446, 447, 448, 449, 450, 451, 452, 453, 454, 455, 456, 457, 458] : List Nat).map (fun i => (flatC gvN)[i]?) := by decide +kernel
theorem st_s15 : (sCds "MarkerText" 110 (xtx 15)).map some = ([459, 460, 461, 462, 463, 464, 465, 466, 467, 468, 469, 470, 471, 472, 473, 474, 475, 476, 477, 478, 479, 480, 481, 482, 483, 484, 485, 486, 487, 488, 489, 490, 491, 492, 493] : List Nat).map (fun i => (flatC gvN)[i]?) := by decide +kernel
theorem st_s16 : (sCds "MarkerText" 115 (xtx 16)).map some = ([494, 495, 496, 497, 498, 499, 500, 501, 502, 503, 504, 505, 506, 507, 508, 509, 510, 511, 512, 513, 514, 515, 516, 517, 518] : List Nat).map (fun i => (flatC gvN)[i]?) := by decide +kernel
theorem st_s17 : (sCds "java/lang/StringLatin1" 151 (xtx 17)).map some = ([519, 520, 521, 522] : List Nat).map (fun i => (flatC gvN)[i]?) := by decide +kernel
theorem st_s18 : (sCds "java/lang/StringUTF16" 295 (xtx 18)).map some = ([523, 524, 525, 526] : List Nat).map (fun i => (flatC gvN)[i]?) := by decide +kernel
theorem st_s19 : (sCds "MarkerText$Reader" 95 (xtx 19)).map some = ([528, 529, 530, 531, 532, 533, 534] : List Nat).map (fun i => (flatC gvN)[i]?) := by decide +kernel
theorem st_s20 : (sCds "MarkerText$Reader" 109 (xtx 20)).map some = ([536, 537, 538, 539, 540, 541, 542, 543] : List Nat).map (fun i => (flatC gvN)[i]?) := by decide +kernel
theorem st_s21 : (sCds "MarkerText$Reader" 111 (xtx 21)).map some = ([545, 546, 547, 548, 549, 550, 551, 552, 553] : List Nat).map (fun i => (flatC gvN)[i]?) := by decide +kernel
theorem st_s22 : (sCds "MarkerText$Reader" 146 (xtx 22)).map some = ([555, 556, 557, 558, 559, 560] : List Nat).map (fun i => (flatC gvN)[i]?) := by decide +kernel
theorem st_s23 : (sCds "MarkerText$Reader" 176 (xtx 23)).map some = ([562, 563, 564, 565, 566, 567] : List Nat).map (fun i => (flatC gvN)[i]?) := by decide +kernel
theorem st_s24 : (sCds "MarkerText$Reader" 79 (xtx 24)).map some = ([568, 569, 570, 571, 572, 573] : List Nat).map (fun i => (flatC gvN)[i]?) := by decide +kernel
theorem st_s25 : (sCds "MarkerText$Reader" 81 (xtx 25)).map some = ([575, 576, 577, 578, 579, 580, 581] : List Nat).map (fun i => (flatC gvN)[i]?) := by decide +kernel
theorem st_s26 : (sCds "MarkerText$Constant" 13 (xtx 26)).map some = ([583, 584, 585, 586, 587, 588, 589, 590] : List Nat).map (fun i => (flatC gvN)[i]?) := by decide +kernel
theorem st_s27 : (sCds "MarkerText$Constant" 15 (xtx 27)).map some = ([593, 594, 595, 596, 597, 598, 599, 600, 601] : List Nat).map (fun i => (flatC gvN)[i]?) := by decide +kernel
theorem st_s28 : (sCds "MarkerText$Negation" 17 (xtx 28)).map some = ([604, 605, 606, 607, 608, 609, 610, 611] : List Nat).map (fun i => (flatC gvN)[i]?) := by decide +kernel
theorem st_s29 : (sCds "MarkerText$Join" 29 (xtx 29)).map some = ([612, 613, 614, 615, 616, 617, 618, 619] : List Nat).map (fun i => (flatC gvN)[i]?) := by decide +kernel
theorem st_s30 : (sCds "MarkerText$Join" 31 (xtx 30)).map some = ([620, 621, 622, 623, 624, 625, 626, 627, 628] : List Nat).map (fun i => (flatC gvN)[i]?) := by decide +kernel
theorem st_s31 : (sCds "MarkerText" 133 (xtx 31)).map some = ([629, 630, 631, 632, 633, 634, 635, 636, 637, 638, 639, 640, 641, 642, 643, 644, 645, 646, 647] : List Nat).map (fun i => (flatC gvN)[i]?) := by decide +kernel
theorem st_s32 : (sCds "MarkerText" 135 (xtx 32)).map some = ([648, 649, 650, 651, 652, 653, 654, 655, 656, 657, 658, 659, 660, 661, 662, 663, 664, 665, 666, 667, 668, 669, 670] : List Nat).map (fun i => (flatC gvN)[i]?) := by decide +kernel
theorem st_s33 : (sCds "MarkerText" 141 (xtx 33)).map some = ([671, 672, 673, 674, 675, 676, 677, 678, 679, 680, 681, 682, 683, 684, 685, 686, 687, 688, 689, 690, 691, 692, 693, 694, 695, 696, 697, 698, 699, 700, 701] : List Nat).map (fun i => (flatC gvN)[i]?) := by decide +kernel
theorem st_all : ∀ q ∈ xStr, ∀ w ∈ sCds q.1 q.2.1 (xtx q.2.2.2), w ∈ flatC gvN := List.forall_mem_cons.mpr ⟨st_mem st_s0, List.forall_mem_cons.mpr ⟨st_mem st_s1, List.forall_mem_cons.mpr ⟨st_mem st_s2, List.forall_mem_cons.mpr ⟨st_mem st_s3, List.forall_mem_cons.mpr ⟨st_mem st_s4, List.forall_mem_cons.mpr ⟨st_mem st_s5, List.forall_mem_cons.mpr ⟨st_mem st_s6, List.forall_mem_cons.mpr ⟨st_mem st_s7, List.forall_mem_cons.mpr ⟨st_mem st_s8, List.forall_mem_cons.mpr ⟨st_mem st_s9, List.forall_mem_cons.mpr ⟨st_mem st_s10, List.forall_mem_cons.mpr ⟨st_mem st_s11, List.forall_mem_cons.mpr ⟨st_mem st_s12, List.forall_mem_cons.mpr ⟨st_mem st_s13, List.forall_mem_cons.mpr ⟨st_mem st_s14, List.forall_mem_cons.mpr ⟨st_mem st_s15, List.forall_mem_cons.mpr ⟨st_mem st_s16, List.forall_mem_cons.mpr ⟨st_mem st_s17, List.forall_mem_cons.mpr ⟨st_mem st_s18, List.forall_mem_cons.mpr ⟨st_mem st_s19, List.forall_mem_cons.mpr ⟨st_mem st_s20, List.forall_mem_cons.mpr ⟨st_mem st_s21, List.forall_mem_cons.mpr ⟨st_mem st_s22, List.forall_mem_cons.mpr ⟨st_mem st_s23, List.forall_mem_cons.mpr ⟨st_mem st_s24, List.forall_mem_cons.mpr ⟨st_mem st_s25, List.forall_mem_cons.mpr ⟨st_mem st_s26, List.forall_mem_cons.mpr ⟨st_mem st_s27, List.forall_mem_cons.mpr ⟨st_mem st_s28, List.forall_mem_cons.mpr ⟨st_mem st_s29, List.forall_mem_cons.mpr ⟨st_mem st_s30, List.forall_mem_cons.mpr ⟨st_mem st_s31, List.forall_mem_cons.mpr ⟨st_mem st_s32, List.forall_mem_cons.mpr ⟨st_mem st_s33, fun _ hz => by cases hz⟩⟩⟩⟩⟩⟩⟩⟩⟩⟩⟩⟩⟩⟩⟩⟩⟩⟩⟩⟩⟩⟩⟩⟩⟩⟩⟩⟩⟩⟩⟩⟩⟩⟩
theorem st_refs : xStr.map (fun q => some (Cond.stringRef q.1 q.2.1 q.2.2.1)) = ([566, 660, 661, 662, 677, 686, 687, 688, 689, 690, 695, 697, 707, 744, 758, 810, 811, 911, 920, 926, 960, 961, 981, 1007, 1083, 1084, 1105, 1106, 1123, 1129, 1130, 1154, 1155, 1163] : List Nat).map (fun i => tables_1[i]?) := by decide +kernel
theorem st_ref : ∀ q ∈ xStr, Cond.stringRef q.1 q.2.1 q.2.2.1 ∈ lw_tbl := by
  intro q hq
  have h1 : some (Cond.stringRef q.1 q.2.1 q.2.2.1) ∈ xStr.map (fun q => some (Cond.stringRef q.1 q.2.1 q.2.2.1)) := List.mem_map.mpr ⟨q, hq, rfl⟩
  rw [st_refs] at h1
  obtain ⟨i, -, hi⟩ := List.mem_map.mp h1
  exact List.mem_append_right _ (List.mem_of_getElem? hi)
theorem st_ix : ∀ i, i < xnstr → (xStr[i]?).map (fun q => q.2.2.2) = some i := by decide +kernel
theorem st_ix2 : ∀ q ∈ xStr, q.2.2.2 < xnstr ∧ xStr[q.2.2.2]? = some q := by decide +kernel
theorem st_len : ∀ i, i < xnstr → (xtx i).length < 100 := by decide +kernel
/-- a String constant, as it stands in the heap -/
def stS (s : State) (a t : Nat) (cs : List Nat) : Prop := va_O "java/lang/String" a (fun q => s.heap.size ≤ q) s s.heap ∧ va_OF "java/lang/String" "coder" "B" (.int 0) a (fun q => s.heap.size ≤ q) s s.heap ∧ va_OF "java/lang/String" "value" "[B" (.ref t) a (fun q => s.heap.size ≤ q) s s.heap ∧ va_T .byte t cs.length (fun j => .int (Int32.ofNat (cs.getD j 0))) (fun q => s.heap.size ≤ q) s s.heap
theorem st_str {args : Array Value} {s : State} (hg : gvN.before args s = true) {q : String × Nat × String × Nat} (hq : q ∈ xStr) : ∃ a t : Nat, (Term.string q.1 q.2.1).eval args s none [] s = some (.ref a) ∧ stS s a t (xtx q.2.2.2) := by
  have hs := flat_of_before _ hg
  have hm := fun w hw => hs w (st_all q hq w hw)
  have hl := st_len q.2.2.2 (st_ix2 q hq).1
  generalize xtx q.2.2.2 = cs at hm hl ⊢
  obtain ⟨adK, adV, ⟨hall, -⟩, hev⟩ := vk_Sof (args := args) (s := s) (N := 1) (tm := fun _ => Term.string q.1 q.2.1) (len := [cs.length]) (byt := [cs.map Int32.ofNat]) (A := fun q => s.heap.size ≤ q)
    (fun i hi => by obtain rfl : i = 0 := by omega
                    show cs.length < 2 ^ 31; omega)
    (fun i hi => hm _ (by simp [sCds])) (fun i hi => hm _ (by simp [sCds])) (fun i hi => hm _ (by simp [sCds]))
    (fun i hi => by obtain rfl : i = 0 := by omega
                    exact hm _ (by simp [sCds]))
    (fun i hi j hj => by
      obtain rfl : i = 0 := by omega
      have hj' : j < cs.length := hj
      have e : ([cs.map Int32.ofNat].getD 0 []).getD j 0 = Int32.ofNat (cs.getD j 0) := by
        show (cs.map Int32.ofNat).getD j 0 = _
        simp [hj']
      rw [e]
      refine hm _ ?_
      unfold sCds
      exact List.mem_append_right _ (List.mem_map.mpr ⟨j, List.mem_range.mpr hj', rfl⟩))
    (fun i j hi hj hij => absurd (show i = j by omega) hij) (fun a ha => Nat.not_le.mpr ha)
  obtain ⟨h1, h2, h3, h4⟩ := hall 0 (by omega)
  refine ⟨adK 0, adV 0, hev 0 (by omega), h1, h2, h3, ?_⟩
  obtain ⟨cell, z1, z2, z3, z4, z5, z6, z7⟩ := h4
  refine ⟨cell, z1, z2, z3, z4, z5, fun j hj => ?_, z7⟩
  rw [z6 j hj]
  have hj' : j < cs.length := hj
  show some (Value.int ((cs.map Int32.ofNat).getD j 0)) = _
  simp [hj']
end START
