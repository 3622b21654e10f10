/-! the law's names -/
abbrev cL_law : ByteArray := code
def yL_law : MethodName := ⟨RL, "law", "([I)Z"⟩
set_option maxRecDepth 20000 in
theorem wsL_law_in : ∀ w ∈ wsL_law, w ∈ lw_tbl := fun w h => (goodIn_p wsL_law [63, 66, 71, 130, 588, 196, 200, 203, 206, 642, 646, 210, 214, 218, 221, 224, 227, 231, 235, 242, 246, 250, 254, 259, 268, 272, 275, 281, 285, 289, 293, 296, 299, 302, 305, 309, 317, 321, 650, 654, 658, 661, 665, 668, 671, 675, 679, 682, 686, 690, 694, 697, 700, 704, 707, 710, 714, 718, 721, 724, 728, 326, 330, 732, 736, 334, 340, 740, 743, 345, 747, 349, 751, 358, 362, 755, 759, 369, 763, 374, 767, 379, 771, 383, 387, 775, 779, 783, 787, 392, 791, 396, 796, 400, 403, 407, 412, 417, 423, 427, 431, 435, 440, 445, 450, 800, 804, 807, 811, 815, 818, 454, 822, 458, 826, 463, 467, 471, 475, 480, 830, 834, 838, 842, 484, 488, 846, 850, 492, 495, 499, 503, 506, 854, 858, 513, 516, 519, 523, 527, 862, 865, 868, 531, 872, 876, 536, 880, 884, 540, 544, 548, 888, 892, 896, 552, 900, 556, 904, 560, 564, 568, 908, 912, 575, 919, 579, 923, 583, 927] (by decide +kernel) (by decide +kernel) w h).1
theorem inlX0 : ∀ w ∈ wsX00, w ∈ wsL_law := fun _ h => List.mem_append_left _ (List.mem_append_left _ (List.mem_append_right _ h))
theorem inX0 : ∀ w ∈ wsX00, w ∈ lw_tbl := fun w h => wsL_law_in w (inlX0 w h)
theorem inlX1 : ∀ w ∈ wsX10, w ∈ wsL_law := fun _ h => List.mem_append_left _ (List.mem_append_right _ h)
theorem inX1 : ∀ w ∈ wsX10, w ∈ lw_tbl := fun w h => wsL_law_in w (inlX1 w h)
theorem inlX2 : ∀ w ∈ wsX20, w ∈ wsL_law := fun _ h => List.mem_append_left _ (List.mem_append_left _ (List.mem_append_left _ (List.mem_append_left _ (List.mem_append_right _ h))))
theorem inX2 : ∀ w ∈ wsX20, w ∈ lw_tbl := fun w h => wsL_law_in w (inlX2 w h)
theorem inlX3 : ∀ w ∈ wsX30, w ∈ wsL_law := fun _ h => List.mem_append_left _ (List.mem_append_left _ (List.mem_append_left _ (List.mem_append_right _ h)))
theorem inX3 : ∀ w ∈ wsX30, w ∈ lw_tbl := fun w h => wsL_law_in w (inlX3 w h)
theorem inJ6 : ∀ w ∈ wsJ60, w ∈ lw_tbl := by decide +kernel
theorem inJ9 : ∀ w ∈ wsJ90, w ∈ lw_tbl := by decide +kernel
theorem inJ10 : ∀ w ∈ wsJ100, w ∈ lw_tbl := by decide +kernel
