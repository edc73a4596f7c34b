/-! what is given at the start: the rows of the premises, by families -/
def nwSt (i : Nat) : Term := .static "WhistleBook$Word" (wNm.getD i "") "LWhistleBook$Word;"
def nwSg (i : Nat) : Term := .string "WhistleBook$Word" (wLet.getD i 0)
def nwAl : Term := .static "WhistleBook$Word" "ALL" "[LWhistleBook$Word;"
def ix_ex : List Nat := [2, 39, 74, 57, 65, 50, 84, 95, 107, 182, 200, 219, 165, 149, 120, 134, 241, 262, 284, 44, 307, 331, 356]
set_option maxRecDepth 100000 in
set_option maxHeartbeats 4000000 in
theorem nw_ex : ∀ i, i < 23 → (flatC narrow_1)[ix_ex.getD i 0]? = some (Cond.exactly (nwSt i) "WhistleBook$Word") := by decide +kernel
def ix_le : List Nat := [4, 41, 76, 59, 67, 52, 86, 97, 109, 184, 202, 221, 167, 151, 122, 136, 243, 264, 286, 46, 309, 333, 358]
set_option maxRecDepth 100000 in
set_option maxHeartbeats 4000000 in
theorem nw_le : ∀ i, i < 23 → (flatC narrow_1)[ix_le.getD i 0]? = some (Cond.eq (.field (nwSt i) "WhistleBook$Word" "letters" "Ljava/lang/String;") (nwSg i)) := by decide +kernel
def ix_fa : List Nat := [5, 42, 77, 60, 68, 53, 87, 98, 110, 185, 203, 222, 168, 152, 123, 137, 244, 265, 287, 47, 310, 334, 359]
set_option maxRecDepth 100000 in
set_option maxHeartbeats 4000000 in
theorem nw_fa : ∀ i, i < 23 → (flatC narrow_1)[ix_fa.getD i 0]? = some (Cond.eq (.field (nwSt i) "WhistleBook$Word" "fact" "I") (.int (wFact.getD i 0))) := by decide +kernel
def ix_al : List Nat := [11, 12, 13, 14, 15, 16, 17, 18, 19, 20, 21, 22, 23, 24, 25, 26, 27, 28, 29, 30, 31, 32, 33]
set_option maxRecDepth 100000 in
set_option maxHeartbeats 4000000 in
theorem nw_al : ∀ i, i < 23 → (flatC narrow_1)[ix_al.getD i 0]? = some (Cond.eq (.elem nwAl (.int (Int32.ofNat i))) (nwSt i)) := by decide +kernel
def ix_sx : List Nat := [614, 618, 661, 643, 652, 634, 668, 676, 685, 724, 733, 742, 717, 709, 692, 700, 751, 760, 769, 625, 780, 791, 801]
set_option maxRecDepth 100000 in
set_option maxHeartbeats 4000000 in
theorem nw_sx : ∀ i, i < 23 → (flatC narrow_1)[ix_sx.getD i 0]? = some (Cond.exactly (nwSg i) "java/lang/String") := by decide +kernel
def ix_sc : List Nat := [615, 619, 662, 644, 653, 635, 669, 677, 686, 725, 734, 743, 718, 710, 693, 701, 752, 761, 770, 626, 781, 792, 802]
set_option maxRecDepth 100000 in
set_option maxHeartbeats 4000000 in
theorem nw_sc : ∀ i, i < 23 → (flatC narrow_1)[ix_sc.getD i 0]? = some (Cond.eq (.field (nwSg i) "java/lang/String" "coder" "B") (.int 0)) := by decide +kernel
def ix_sa : List Nat := [616, 620, 663, 645, 654, 636, 670, 678, 687, 726, 735, 744, 719, 711, 694, 702, 753, 762, 771, 627, 782, 793, 803]
set_option maxRecDepth 100000 in
set_option maxHeartbeats 4000000 in
theorem nw_sa : ∀ i, i < 23 → (flatC narrow_1)[ix_sa.getD i 0]? = some (Cond.arrayOf (.field (nwSg i) "java/lang/String" "value" "[B") .byte) := by decide +kernel
def ix_sl : List Nat := [617, 621, 664, 646, 655, 637, 671, 679, 688, 727, 736, 745, 720, 712, 695, 703, 754, 763, 772, 628, 783, 794, 804]
set_option maxRecDepth 100000 in
set_option maxHeartbeats 4000000 in
theorem nw_sl : ∀ i, i < 23 → (flatC narrow_1)[ix_sl.getD i 0]? = some (Cond.eq (.length (.field (nwSg i) "java/lang/String" "value" "[B")) (.int (Int32.ofNat (wLen.getD i 0)))) := by decide +kernel
def ix_sb : List Nat := [0, 622, 665, 647, 656, 638, 672, 680, 689, 728, 737, 746, 721, 713, 696, 704, 755, 764, 773, 629, 784, 795, 805]
set_option maxRecDepth 100000 in
set_option maxHeartbeats 4000000 in
theorem nw_sb : ∀ i, i < 23 → ∀ j, j < wLen.getD i 0 → (flatC narrow_1)[ix_sb.getD i 0 + j]? = some (Cond.eq (.elem (.field (nwSg i) "java/lang/String" "value" "[B") (.int (Int32.ofNat j))) (.int ((wByt.getD i []).getD j 0))) := by decide +kernel
def ix_ne : List Nat := [0, 43, 78, 61, 69, 54, 88, 99, 111, 186, 204, 223, 169, 153, 124, 138, 245, 266, 288, 48, 311, 335, 360, 0, 0, 79, 62, 70, 55, 89, 100, 112, 187, 205, 224, 170, 154, 125, 139, 246, 267, 289, 49, 312, 336, 361, 0, 0, 0, 82, 83, 81, 94, 105, 117, 192, 210, 229, 175, 159, 130, 144, 251, 272, 294, 80, 317, 341, 366, 0, 0, 0, 0, 73, 64, 92, 103, 115, 190, 208, 227, 173, 157, 128, 142, 249, 270, 292, 63, 315, 339, 364, 0, 0, 0, 0, 0, 72, 93, 104, 116, 191, 209, 228, 174, 158, 129, 143, 250, 271, 293, 71, 316, 340, 365, 0, 0, 0, 0, 0, 0, 91, 102, 114, 189, 207, 226, 172, 156, 127, 141, 248, 269, 291, 56, 314, 338, 363, 0, 0, 0, 0, 0, 0, 0, 106, 118, 193, 211, 230, 176, 160, 131, 145, 252, 273, 295, 90, 318, 342, 367, 0, 0, 0, 0, 0, 0, 0, 0, 119, 194, 212, 231, 177, 161, 132, 146, 253, 274, 296, 101, 319, 343, 368, 0, 0, 0, 0, 0, 0, 0, 0, 0, 195, 213, 232, 178, 162, 133, 147, 254, 275, 297, 113, 320, 344, 369, 0, 0, 0, 0, 0, 0, 0, 0, 0, 0, 218, 237, 199, 198, 196, 197, 259, 280, 302, 188, 325, 349, 374, 0, 0, 0, 0, 0, 0, 0, 0, 0, 0, 0, 238, 217, 216, 214, 215, 260, 281, 303, 206, 326, 350, 375, 0, 0, 0, 0, 0, 0, 0, 0, 0, 0, 0, 0, 236, 235, 233, 234, 261, 282, 304, 225, 327, 351, 376, 0, 0, 0, 0, 0, 0, 0, 0, 0, 0, 0, 0, 0, 181, 179, 180, 258, 279, 301, 171, 324, 348, 373, 0, 0, 0, 0, 0, 0, 0, 0, 0, 0, 0, 0, 0, 0, 163, 164, 257, 278, 300, 155, 323, 347, 372, 0, 0, 0, 0, 0, 0, 0, 0, 0, 0, 0, 0, 0, 0, 0, 148, 255, 276, 298, 126, 321, 345, 370, 0, 0, 0, 0, 0, 0, 0, 0, 0, 0, 0, 0, 0, 0, 0, 0, 256, 277, 299, 140, 322, 346, 371, 0, 0, 0, 0, 0, 0, 0, 0, 0, 0, 0, 0, 0, 0, 0, 0, 0, 283, 305, 247, 328, 352, 377, 0, 0, 0, 0, 0, 0, 0, 0, 0, 0, 0, 0, 0, 0, 0, 0, 0, 0, 306, 268, 329, 353, 378, 0, 0, 0, 0, 0, 0, 0, 0, 0, 0, 0, 0, 0, 0, 0, 0, 0, 0, 0, 290, 330, 354, 379, 0, 0, 0, 0, 0, 0, 0, 0, 0, 0, 0, 0, 0, 0, 0, 0, 0, 0, 0, 0, 313, 337, 362, 0, 0, 0, 0, 0, 0, 0, 0, 0, 0, 0, 0, 0, 0, 0, 0, 0, 0, 0, 0, 0, 355, 380, 0, 0, 0, 0, 0, 0, 0, 0, 0, 0, 0, 0, 0, 0, 0, 0, 0, 0, 0, 0, 0, 0, 381, 0, 0, 0, 0, 0, 0, 0, 0, 0, 0, 0, 0, 0, 0, 0, 0, 0, 0, 0, 0, 0, 0, 0]
def fl_ne : List Nat := [0, 0, 0, 0, 0, 0, 0, 0, 0, 0, 0, 0, 0, 0, 0, 0, 0, 0, 0, 0, 0, 0, 0, 0, 0, 0, 0, 0, 0, 0, 0, 0, 0, 0, 0, 0, 0, 0, 0, 0, 0, 0, 0, 0, 0, 0, 0, 0, 0, 1, 1, 1, 0, 0, 0, 0, 0, 0, 0, 0, 0, 0, 0, 0, 0, 1, 0, 0, 0, 0, 0, 0, 0, 0, 1, 0, 0, 0, 0, 0, 0, 0, 0, 0, 0, 0, 0, 0, 1, 0, 0, 0, 0, 0, 0, 0, 0, 1, 0, 0, 0, 0, 0, 0, 0, 0, 0, 0, 0, 0, 0, 1, 0, 0, 0, 0, 0, 0, 0, 0, 0, 0, 0, 0, 0, 0, 0, 0, 0, 0, 0, 0, 0, 0, 1, 0, 0, 0, 0, 0, 0, 0, 0, 0, 0, 0, 0, 0, 0, 0, 0, 0, 0, 0, 0, 0, 0, 1, 0, 0, 0, 0, 0, 0, 0, 0, 0, 0, 0, 0, 0, 0, 0, 0, 0, 0, 0, 0, 0, 0, 1, 0, 0, 0, 0, 0, 0, 0, 0, 0, 0, 0, 0, 0, 0, 0, 0, 0, 0, 0, 0, 0, 0, 1, 0, 0, 0, 0, 0, 0, 0, 0, 0, 0, 0, 0, 0, 0, 0, 1, 1, 1, 1, 0, 0, 0, 1, 0, 0, 0, 0, 0, 0, 0, 0, 0, 0, 0, 0, 0, 0, 0, 1, 1, 1, 1, 0, 0, 0, 1, 0, 0, 0, 0, 0, 0, 0, 0, 0, 0, 0, 0, 0, 0, 0, 1, 1, 1, 1, 0, 0, 0, 1, 0, 0, 0, 0, 0, 0, 0, 0, 0, 0, 0, 0, 0, 0, 0, 0, 1, 1, 1, 0, 0, 0, 1, 0, 0, 0, 0, 0, 0, 0, 0, 0, 0, 0, 0, 0, 0, 0, 0, 0, 1, 1, 0, 0, 0, 1, 0, 0, 0, 0, 0, 0, 0, 0, 0, 0, 0, 0, 0, 0, 0, 0, 0, 0, 0, 0, 0, 0, 1, 0, 0, 0, 0, 0, 0, 0, 0, 0, 0, 0, 0, 0, 0, 0, 0, 0, 0, 0, 0, 0, 0, 1, 0, 0, 0, 0, 0, 0, 0, 0, 0, 0, 0, 0, 0, 0, 0, 0, 0, 0, 0, 0, 0, 0, 1, 0, 0, 0, 0, 0, 0, 0, 0, 0, 0, 0, 0, 0, 0, 0, 0, 0, 0, 0, 0, 0, 0, 1, 0, 0, 0, 0, 0, 0, 0, 0, 0, 0, 0, 0, 0, 0, 0, 0, 0, 0, 0, 0, 0, 0, 1, 0, 0, 0, 0, 0, 0, 0, 0, 0, 0, 0, 0, 0, 0, 0, 0, 0, 0, 0, 0, 0, 0, 0, 0, 0, 0, 0, 0, 0, 0, 0, 0, 0, 0, 0, 0, 0, 0, 0, 0, 0, 0, 0, 0, 0, 0, 0, 0, 0, 0, 0, 0, 0, 0, 0, 0, 0, 0, 0, 0, 0, 0, 0, 0, 0, 0, 0, 0, 0, 0, 0, 0, 0, 0, 0, 0, 0, 0, 0, 0, 0, 0, 0, 0, 0, 0, 0, 0, 0, 0, 0, 0, 0, 0, 0]
set_option maxRecDepth 100000 in
set_option maxHeartbeats 4000000 in
theorem nw_ne0 : ∀ j, j < 23 → 0 < j → (flatC narrow_1)[ix_ne.getD (23 * 0 + j) 0]? = some (if fl_ne.getD (23 * 0 + j) 0 = 0 then Cond.not (.eq (nwSt 0) (nwSt j)) else Cond.not (.eq (nwSt j) (nwSt 0))) := by decide +kernel
set_option maxRecDepth 100000 in
set_option maxHeartbeats 4000000 in
theorem nw_ne1 : ∀ j, j < 23 → 1 < j → (flatC narrow_1)[ix_ne.getD (23 * 1 + j) 0]? = some (if fl_ne.getD (23 * 1 + j) 0 = 0 then Cond.not (.eq (nwSt 1) (nwSt j)) else Cond.not (.eq (nwSt j) (nwSt 1))) := by decide +kernel
set_option maxRecDepth 100000 in
set_option maxHeartbeats 4000000 in
theorem nw_ne2 : ∀ j, j < 23 → 2 < j → (flatC narrow_1)[ix_ne.getD (23 * 2 + j) 0]? = some (if fl_ne.getD (23 * 2 + j) 0 = 0 then Cond.not (.eq (nwSt 2) (nwSt j)) else Cond.not (.eq (nwSt j) (nwSt 2))) := by decide +kernel
set_option maxRecDepth 100000 in
set_option maxHeartbeats 4000000 in
theorem nw_ne3 : ∀ j, j < 23 → 3 < j → (flatC narrow_1)[ix_ne.getD (23 * 3 + j) 0]? = some (if fl_ne.getD (23 * 3 + j) 0 = 0 then Cond.not (.eq (nwSt 3) (nwSt j)) else Cond.not (.eq (nwSt j) (nwSt 3))) := by decide +kernel
set_option maxRecDepth 100000 in
set_option maxHeartbeats 4000000 in
theorem nw_ne4 : ∀ j, j < 23 → 4 < j → (flatC narrow_1)[ix_ne.getD (23 * 4 + j) 0]? = some (if fl_ne.getD (23 * 4 + j) 0 = 0 then Cond.not (.eq (nwSt 4) (nwSt j)) else Cond.not (.eq (nwSt j) (nwSt 4))) := by decide +kernel
set_option maxRecDepth 100000 in
set_option maxHeartbeats 4000000 in
theorem nw_ne5 : ∀ j, j < 23 → 5 < j → (flatC narrow_1)[ix_ne.getD (23 * 5 + j) 0]? = some (if fl_ne.getD (23 * 5 + j) 0 = 0 then Cond.not (.eq (nwSt 5) (nwSt j)) else Cond.not (.eq (nwSt j) (nwSt 5))) := by decide +kernel
set_option maxRecDepth 100000 in
set_option maxHeartbeats 4000000 in
theorem nw_ne6 : ∀ j, j < 23 → 6 < j → (flatC narrow_1)[ix_ne.getD (23 * 6 + j) 0]? = some (if fl_ne.getD (23 * 6 + j) 0 = 0 then Cond.not (.eq (nwSt 6) (nwSt j)) else Cond.not (.eq (nwSt j) (nwSt 6))) := by decide +kernel
set_option maxRecDepth 100000 in
set_option maxHeartbeats 4000000 in
theorem nw_ne7 : ∀ j, j < 23 → 7 < j → (flatC narrow_1)[ix_ne.getD (23 * 7 + j) 0]? = some (if fl_ne.getD (23 * 7 + j) 0 = 0 then Cond.not (.eq (nwSt 7) (nwSt j)) else Cond.not (.eq (nwSt j) (nwSt 7))) := by decide +kernel
set_option maxRecDepth 100000 in
set_option maxHeartbeats 4000000 in
theorem nw_ne8 : ∀ j, j < 23 → 8 < j → (flatC narrow_1)[ix_ne.getD (23 * 8 + j) 0]? = some (if fl_ne.getD (23 * 8 + j) 0 = 0 then Cond.not (.eq (nwSt 8) (nwSt j)) else Cond.not (.eq (nwSt j) (nwSt 8))) := by decide +kernel
set_option maxRecDepth 100000 in
set_option maxHeartbeats 4000000 in
theorem nw_ne9 : ∀ j, j < 23 → 9 < j → (flatC narrow_1)[ix_ne.getD (23 * 9 + j) 0]? = some (if fl_ne.getD (23 * 9 + j) 0 = 0 then Cond.not (.eq (nwSt 9) (nwSt j)) else Cond.not (.eq (nwSt j) (nwSt 9))) := by decide +kernel
set_option maxRecDepth 100000 in
set_option maxHeartbeats 4000000 in
theorem nw_ne10 : ∀ j, j < 23 → 10 < j → (flatC narrow_1)[ix_ne.getD (23 * 10 + j) 0]? = some (if fl_ne.getD (23 * 10 + j) 0 = 0 then Cond.not (.eq (nwSt 10) (nwSt j)) else Cond.not (.eq (nwSt j) (nwSt 10))) := by decide +kernel
set_option maxRecDepth 100000 in
set_option maxHeartbeats 4000000 in
theorem nw_ne11 : ∀ j, j < 23 → 11 < j → (flatC narrow_1)[ix_ne.getD (23 * 11 + j) 0]? = some (if fl_ne.getD (23 * 11 + j) 0 = 0 then Cond.not (.eq (nwSt 11) (nwSt j)) else Cond.not (.eq (nwSt j) (nwSt 11))) := by decide +kernel
set_option maxRecDepth 100000 in
set_option maxHeartbeats 4000000 in
theorem nw_ne12 : ∀ j, j < 23 → 12 < j → (flatC narrow_1)[ix_ne.getD (23 * 12 + j) 0]? = some (if fl_ne.getD (23 * 12 + j) 0 = 0 then Cond.not (.eq (nwSt 12) (nwSt j)) else Cond.not (.eq (nwSt j) (nwSt 12))) := by decide +kernel
set_option maxRecDepth 100000 in
set_option maxHeartbeats 4000000 in
theorem nw_ne13 : ∀ j, j < 23 → 13 < j → (flatC narrow_1)[ix_ne.getD (23 * 13 + j) 0]? = some (if fl_ne.getD (23 * 13 + j) 0 = 0 then Cond.not (.eq (nwSt 13) (nwSt j)) else Cond.not (.eq (nwSt j) (nwSt 13))) := by decide +kernel
set_option maxRecDepth 100000 in
set_option maxHeartbeats 4000000 in
theorem nw_ne14 : ∀ j, j < 23 → 14 < j → (flatC narrow_1)[ix_ne.getD (23 * 14 + j) 0]? = some (if fl_ne.getD (23 * 14 + j) 0 = 0 then Cond.not (.eq (nwSt 14) (nwSt j)) else Cond.not (.eq (nwSt j) (nwSt 14))) := by decide +kernel
set_option maxRecDepth 100000 in
set_option maxHeartbeats 4000000 in
theorem nw_ne15 : ∀ j, j < 23 → 15 < j → (flatC narrow_1)[ix_ne.getD (23 * 15 + j) 0]? = some (if fl_ne.getD (23 * 15 + j) 0 = 0 then Cond.not (.eq (nwSt 15) (nwSt j)) else Cond.not (.eq (nwSt j) (nwSt 15))) := by decide +kernel
set_option maxRecDepth 100000 in
set_option maxHeartbeats 4000000 in
theorem nw_ne16 : ∀ j, j < 23 → 16 < j → (flatC narrow_1)[ix_ne.getD (23 * 16 + j) 0]? = some (if fl_ne.getD (23 * 16 + j) 0 = 0 then Cond.not (.eq (nwSt 16) (nwSt j)) else Cond.not (.eq (nwSt j) (nwSt 16))) := by decide +kernel
set_option maxRecDepth 100000 in
set_option maxHeartbeats 4000000 in
theorem nw_ne17 : ∀ j, j < 23 → 17 < j → (flatC narrow_1)[ix_ne.getD (23 * 17 + j) 0]? = some (if fl_ne.getD (23 * 17 + j) 0 = 0 then Cond.not (.eq (nwSt 17) (nwSt j)) else Cond.not (.eq (nwSt j) (nwSt 17))) := by decide +kernel
set_option maxRecDepth 100000 in
set_option maxHeartbeats 4000000 in
theorem nw_ne18 : ∀ j, j < 23 → 18 < j → (flatC narrow_1)[ix_ne.getD (23 * 18 + j) 0]? = some (if fl_ne.getD (23 * 18 + j) 0 = 0 then Cond.not (.eq (nwSt 18) (nwSt j)) else Cond.not (.eq (nwSt j) (nwSt 18))) := by decide +kernel
set_option maxRecDepth 100000 in
set_option maxHeartbeats 4000000 in
theorem nw_ne19 : ∀ j, j < 23 → 19 < j → (flatC narrow_1)[ix_ne.getD (23 * 19 + j) 0]? = some (if fl_ne.getD (23 * 19 + j) 0 = 0 then Cond.not (.eq (nwSt 19) (nwSt j)) else Cond.not (.eq (nwSt j) (nwSt 19))) := by decide +kernel
set_option maxRecDepth 100000 in
set_option maxHeartbeats 4000000 in
theorem nw_ne20 : ∀ j, j < 23 → 20 < j → (flatC narrow_1)[ix_ne.getD (23 * 20 + j) 0]? = some (if fl_ne.getD (23 * 20 + j) 0 = 0 then Cond.not (.eq (nwSt 20) (nwSt j)) else Cond.not (.eq (nwSt j) (nwSt 20))) := by decide +kernel
set_option maxRecDepth 100000 in
set_option maxHeartbeats 4000000 in
theorem nw_ne21 : ∀ j, j < 23 → 21 < j → (flatC narrow_1)[ix_ne.getD (23 * 21 + j) 0]? = some (if fl_ne.getD (23 * 21 + j) 0 = 0 then Cond.not (.eq (nwSt 21) (nwSt j)) else Cond.not (.eq (nwSt j) (nwSt 21))) := by decide +kernel
set_option maxRecDepth 100000 in
set_option maxHeartbeats 4000000 in
theorem nw_ne22 : ∀ j, j < 23 → 22 < j → (flatC narrow_1)[ix_ne.getD (23 * 22 + j) 0]? = some (if fl_ne.getD (23 * 22 + j) 0 = 0 then Cond.not (.eq (nwSt 22) (nwSt j)) else Cond.not (.eq (nwSt j) (nwSt 22))) := by decide +kernel
theorem nw_ne : ∀ i, i < 23 → ∀ j, j < 23 → i < j → (flatC narrow_1)[ix_ne.getD (23 * i + j) 0]? = some (if fl_ne.getD (23 * i + j) 0 = 0 then Cond.not (.eq (nwSt i) (nwSt j)) else Cond.not (.eq (nwSt j) (nwSt i))) := fun i hi => match i, hi with
  | 0, _ => nw_ne0
  | 1, _ => nw_ne1
  | 2, _ => nw_ne2
  | 3, _ => nw_ne3
  | 4, _ => nw_ne4
  | 5, _ => nw_ne5
  | 6, _ => nw_ne6
  | 7, _ => nw_ne7
  | 8, _ => nw_ne8
  | 9, _ => nw_ne9
  | 10, _ => nw_ne10
  | 11, _ => nw_ne11
  | 12, _ => nw_ne12
  | 13, _ => nw_ne13
  | 14, _ => nw_ne14
  | 15, _ => nw_ne15
  | 16, _ => nw_ne16
  | 17, _ => nw_ne17
  | 18, _ => nw_ne18
  | 19, _ => nw_ne19
  | 20, _ => nw_ne20
  | 21, _ => nw_ne21
  | 22, _ => nw_ne22
  | n + 23, h => absurd h (by omega)
def ix_ms : List Nat := [790, 800, 811, 759, 768, 779, 633, 699, 708, 716, 723, 642, 624, 667, 651, 660, 675, 684, 691, 732, 741, 750]
set_option maxRecDepth 100000 in
set_option maxHeartbeats 4000000 in
theorem nw_ms : ∀ i, i < 22 → (flatC narrow_1)[ix_ms.getD i 0]? = some (Cond.eq (.string "WhistleBookModel" (mStr.getD i (0, 0)).1) (nwSg (mStr.getD i (0, 0)).2)) := by decide +kernel
def ix_sr : List Nat := [1703, 1704, 1705, 1706, 1707, 1708, 1676, 1726, 1731, 1740, 1741, 1665, 1677, 1682, 1683, 1684, 1689, 1690, 1709, 1746, 1747, 1748]
set_option maxRecDepth 100000 in
set_option maxHeartbeats 4000000 in
theorem nw_sr : ∀ i, i < 22 → (lw_tbl)[ix_sr.getD i 0]? = some (Cond.stringRef "WhistleBookModel" (mStr.getD i (0, 0)).1 (wTx.getD (mStr.getD i (0, 0)).2 "")) := by decide +kernel
def ix_la : List Nat := [135, 735, 762, 758, 760, 739, 786, 788, 794, 840, 842, 844, 830, 828, 808, 822, 2074, 2075, 2076, 737, 2077, 2078, 2079]
set_option maxRecDepth 100000 in
set_option maxHeartbeats 4000000 in
theorem nw_la : ∀ i, i < 23 → lw_tbl[ix_la.getD i 0]? = some (Cond.laysStatic "WhistleBook$Word" (wNm.getD i "") "LWhistleBook$Word;") := by decide +kernel
theorem nw_arr : (flatC narrow_1)[8]? = some (Cond.arrayOf nwAl (.object "WhistleBook$Word")) := by decide +kernel
theorem nw_len : (flatC narrow_1)[9]? = some (Cond.eq (.length nwAl) (.int (Int32.ofNat 23))) := by decide +kernel
theorem nw_cs : (flatC narrow_1)[34]? = some (Cond.eq (.static "java/lang/String" "COMPACT_STRINGS" "Z") (.int 1)) := by decide +kernel
theorem nw_sf : (flatC narrow_1)[35]? = some (Cond.isRef (.static "jdk/internal/util/Preconditions" "SIOOBE_FORMATTER" "Ljava/util/function/BiFunction;")) := by decide +kernel
theorem nw_us : (flatC narrow_1)[239]? = some (Cond.isRef (.static Bundle.tN "UNASSIGNED_STACK" Bundle.steD)) := by decide +kernel
theorem nw_ss : (flatC narrow_1)[240]? = some (Cond.isRef (.static Bundle.tN "SUPPRESSED_SENTINEL" Bundle.listD)) := by decide +kernel
theorem nw_cui : (flatC narrow_1)[394]? = some (Cond.not (.castable "java/lang/UnsupportedOperationException" "java/lang/IllegalArgumentException")) := by decide +kernel
theorem nw_cno : (flatC narrow_1)[426]? = some (Cond.not (.castable "java/util/NoSuchElementException" "java/lang/IndexOutOfBoundsException")) := by decide +kernel
theorem nw_cio : (flatC narrow_1)[424]? = some (Cond.not (.castable "java/lang/IllegalArgumentException" "java/lang/IndexOutOfBoundsException")) := by decide +kernel
theorem nw_cni : (flatC narrow_1)[396]? = some (Cond.not (.castable "java/util/NoSuchElementException" "java/lang/IllegalArgumentException")) := by decide +kernel
theorem nw_tA : (lw_tbl)[666]? = some (Cond.laysStatic "WhistleBook$Word" "ALL" "[LWhistleBook$Word;") := by decide +kernel
theorem nw_tC : (lw_tbl)[681]? = some (Cond.laysStatic "java/lang/String" "COMPACT_STRINGS" "Z") := by decide +kernel
theorem nw_tF : (lw_tbl)[698]? = some (Cond.laysStatic "jdk/internal/util/Preconditions" "SIOOBE_FORMATTER" "Ljava/util/function/BiFunction;") := by decide +kernel
theorem nw_tU : (lw_tbl)[876]? = some (Cond.laysStatic Bundle.tN "UNASSIGNED_STACK" Bundle.steD) := by decide +kernel
theorem nw_tS : (lw_tbl)[878]? = some (Cond.laysStatic Bundle.tN "SUPPRESSED_SENTINEL" Bundle.listD) := by decide +kernel
theorem nw_iW : (lw_tbl)[95]? = some (Cond.initialized "WhistleBook$Word") := by decide +kernel
theorem nw_iS : (lw_tbl)[106]? = some (Cond.initialized "java/lang/String") := by decide +kernel
theorem nw_iP : (lw_tbl)[108]? = some (Cond.initialized "jdk/internal/util/Preconditions") := by decide +kernel
theorem nw_iT : (lw_tbl)[110]? = some (Cond.initialized Bundle.tN) := by decide +kernel
theorem nw_aW : (lw_tbl)[133]? = some (Cond.arrayOver (.object "WhistleBook$Word")) := by decide +kernel
theorem nw_aC : (lw_tbl)[208]? = some (Cond.arrayOver (.object "WhistleBook$Code")) := by decide +kernel
theorem nw_aI : (lw_tbl)[178]? = some (Cond.arrayClass .int) := by decide +kernel
theorem nw_aL : (lw_tbl)[1610]? = some (Cond.arrayClass .long) := by decide +kernel
theorem nw_aB : (lw_tbl)[1609]? = some (Cond.arrayClass .byte) := by decide +kernel
theorem nw_inX0 : (lw_tbl)[321]? = some (Cond.instantiable RX0 16) := by decide +kernel
theorem nw_inX1 : (lw_tbl)[186]? = some (Cond.instantiable RX1 18) := by decide +kernel
theorem nw_inX2 : (lw_tbl)[192]? = some (Cond.instantiable RX2 3) := by decide +kernel
theorem nw_inX3 : (lw_tbl)[426]? = some (Cond.instantiable RX3 10) := by decide +kernel
theorem nw_inX4 : (lw_tbl)[404]? = some (Cond.instantiable RX4 5) := by decide +kernel
theorem nw_inX5 : (lw_tbl)[466]? = some (Cond.instantiable RX5 7) := by decide +kernel
theorem nw_inX7 : (lw_tbl)[127]? = some (Cond.instantiable RX7 12) := by decide +kernel
theorem nw_inX8 : (lw_tbl)[180]? = some (Cond.instantiable RX8 8) := by decide +kernel
theorem nw_inX9 : (lw_tbl)[327]? = some (Cond.instantiable RX9 6) := by decide +kernel
theorem nw_inX10 : (lw_tbl)[670]? = some (Cond.instantiable RX10 5) := by decide +kernel
theorem nw_inX11 : (lw_tbl)[119]? = some (Cond.instantiable RX11 9) := by decide +kernel
theorem nw_inX12 : (lw_tbl)[1495]? = some (Cond.instantiable RX12 36) := by decide +kernel
set_option maxRecDepth 100000 in
set_option maxHeartbeats 4000000 in
theorem st_ne : ∀ i, i < 23 → ∀ j, j < 23 → wLen.getD i 0 = wLen.getD j 0 → (∀ k, k < wLen.getD i 0 → (wByt.getD i []).getD k 0 = (wByt.getD j []).getD k 0) → i = j := by decide +kernel
theorem ms_lt : ∀ i, i < 22 → (mStr.getD i (0, 0)).2 < 23 := by decide +kernel
