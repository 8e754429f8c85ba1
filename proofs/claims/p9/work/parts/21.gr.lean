/-! THE REFERENCE: its object stands at place 0 of the pool, its rows behind it. -/
def gr_sh : gz_Sh := [(false, 13, 229), (true, 2, 8), (true, 2, 32), (true, 2, 96), (true, 2, 8), (true, 2, 64), (true, 1, 96), (true, 1, 384), (true, 1, 96), (true, 1, 96), (true, 1, 96), (true, 1, 64), (true, 1, 64), (true, 1, 8), (true, 1, 8), (true, 1, 8), (true, 1, 8), (true, 1, 8), (true, 1, 8), (true, 1, 8), (true, 2, 64), (true, 2, 384), (true, 2, 128), (true, 2, 192), (true, 1, 384), (true, 1, 384), (true, 1, 128), (true, 1, 192), (true, 1, 192), (true, 1, 576), (true, 1, 576), (true, 1, 192), (true, 1, 4608), (true, 1, 4608), (true, 1, 4608), (true, 1, 42000), (true, 1, 512), (true, 1, 512), (true, 1, 1536), (true, 1, 512), (true, 1, 512), (true, 1, 3072), (true, 1, 3072), (true, 1, 18432), (true, 1, 18432), (true, 1, 3072), (true, 1, 18432), (true, 1, 18432), (true, 1, 18432), (true, 1, 18432), (true, 1, 3072), (true, 0, 82000), (true, 1, 5000), (true, 1, 5000), (true, 1, 5000), (true, 2, 5000), (true, 0, 1000), (true, 0, 1000), (true, 0, 1000), (true, 1, 80), (true, 1, 1000), (true, 1, 4), (true, 2, 6), (true, 1, 6), (true, 1, 420), (true, 1, 420), (true, 1, 420), (true, 1, 3), (true, 1, 6), (true, 1, 6), (true, 1, 6), (true, 1, 6), (true, 1, 6), (true, 1, 6), (true, 1, 4), (true, 2, 48), (true, 0, 64), (true, 0, 64), (true, 0, 36864), (true, 1, 1536), (true, 1, 1536), (true, 1, 24), (true, 1, 24), (true, 0, 576), (true, 0, 576), (true, 1, 24), (true, 1, 24), (true, 1, 3000), (true, 1, 3000), (true, 1, 3000), (true, 1, 3000), (true, 1, 3001), (true, 1, 3000), (true, 1, 20000), (true, 1, 9000), (true, 1, 9000), (true, 1, 9000), (true, 1, 9000), (true, 1, 36000), (true, 1, 9000), (true, 1, 4), (true, 1, 4), (true, 1, 4), (true, 1, 6), (true, 2, 3000), (true, 1, 3000), (true, 1, 48000), (true, 1, 48000), (true, 1, 48000), (true, 3, 96), (true, 1, 16), (true, 1, 16), (true, 1, 16), (true, 1, 2000), (true, 1, 480), (true, 1, 8), (true, 0, 288000), (true, 1, 1440), (true, 1, 1440), (true, 1, 1440), (true, 1, 1440), (true, 1, 60), (true, 1, 240), (true, 1, 6), (true, 0, 3200), (true, 1, 16), (true, 0, 57600), (true, 1, 100), (true, 1, 100), (true, 1, 2400), (true, 1, 8), (true, 1, 8), (true, 1, 2400), (true, 1, 2400), (true, 1, 2000), (true, 1, 2000), (true, 1, 2000), (true, 2, 2000), (true, 1, 400)]
/-- what a slot holds: 0 an int, 1 a long, w + 2 the cell at w -/
def gr_fl : List Nat := [0, 0, 0, 0, 0, 0, 0, 3, 4, 5, 6, 7, 8, 9, 10, 11, 12, 13, 14, 15, 16, 17, 18, 19, 20, 21, 22, 23, 24, 25, 26, 27, 28, 29, 30, 31, 32, 33, 34, 35, 36, 37, 0, 38, 39, 40, 41, 42, 43, 44, 45, 46, 47, 48, 49, 50, 51, 52, 53, 0, 54, 55, 56, 57, 0, 58, 59, 60, 0, 0, 0, 0, 0, 0, 0, 1, 0, 0, 0, 0, 1, 1, 1, 1, 1, 1, 1, 1, 1, 1, 1, 1, 1, 1, 1, 1, 1, 61, 62, 0, 0, 0, 63, 64, 0, 65, 0, 66, 67, 68, 69, 70, 71, 72, 73, 74, 75, 76, 0, 0, 0, 77, 0, 0, 78, 79, 0, 0, 0, 80, 81, 82, 0, 0, 83, 84, 0, 0, 0, 85, 86, 87, 88, 0, 89, 90, 91, 92, 93, 94, 95, 96, 97, 98, 99, 100, 101, 0, 0, 0, 0, 0, 102, 103, 104, 105, 0, 0, 0, 0, 0, 106, 107, 108, 109, 110, 111, 0, 0, 0, 0, 1, 1, 112, 113, 114, 0, 115, 0, 116, 117, 118, 119, 120, 121, 122, 123, 124, 125, 126, 127, 0, 128, 129, 130, 131, 0, 132, 133, 134, 135, 0, 136, 137, 138, 139, 0, 0, 0, 140, 0, 0, 1, 1, 1, 1, 1, 1, 1]
def gr_al : List Nat := [1, 1, 1, 1, 1, 0, 0, 0, 0, 0, 0, 0, 0, 0, 0, 0, 0, 0, 0, 1, 1, 1, 1, 0, 0, 0, 0, 0, 0, 0, 0, 0, 0, 0, 0, 0, 0, 0, 0, 0, 0, 0, 0, 0, 0, 0, 0, 0, 0, 0, 0, 0, 0, 0, 1, 0, 0, 0, 0, 0, 0, 1, 0, 0, 0, 0, 0, 0, 0, 0, 0, 0, 0, 0, 1, 0, 0, 0, 0, 0, 0, 0, 0, 0, 0, 0, 0, 0, 0, 0, 0, 0, 0, 0, 0, 0, 0, 0, 0, 0, 0, 0, 0, 1, 0, 0, 0, 0, 0, 0, 0, 0, 0, 0, 0, 0, 0, 0, 0, 0, 0, 0, 0, 0, 0, 0, 0, 0, 0, 0, 0, 0, 0, 0, 0, 0, 1, 0]
def gr_nth : List Nat → Nat → Nat
  | [], _ => 0
  | x :: _, 0 => x
  | _ :: l, n + 1 => gr_nth l n
def gr_ty (a k : Nat) : Nat := match a with
  | 0 => gr_nth gr_fl k
  | a + 1 => gr_nth gr_al a
abbrev gr_I : Type := Nat → Nat → Int
abbrev gr_J : Type := Nat → Nat → Int64
def gr_h (I : gr_I) (J : gr_J) : gz_H := fun a k => match gr_ty a k with
  | 0 => .inl (I a k)
  | 1 => .inr (.inl (J a k))
  | w + 2 => .inr (.inr (some w))
def gr_u (I : gr_I) (a k : Nat) (z : Int) : gr_I := fun b j => if b = a then (if j = k then z else I b j) else I b j
def gr_v (J : gr_J) (a k : Nat) (z : Int64) : gr_J := fun b j => if b = a then (if j = k then z else J b j) else J b j
theorem gr_up {I : gr_I} {J : gr_J} {a k : Nat} {z : Int} (h : gr_ty a k = 0) : gz_up (gr_h I J) a k (.inl z) = gr_h (gr_u I a k z) J := by
  funext b j
  unfold gz_up gr_u gr_h
  by_cases hb : b = a
  · subst hb
    by_cases hj : j = k
    · subst hj
      simp [h]
    · simp [hj]
  · simp [hb]
theorem gr_vp {I : gr_I} {J : gr_J} {a k : Nat} {z : Int64} (h : gr_ty a k = 1) : gz_up (gr_h I J) a k (.inr (.inl z)) = gr_h I (gr_v J a k z) := by
  funext b j
  unfold gz_up gr_v gr_h
  by_cases hb : b = a
  · subst hb
    by_cases hj : j = k
    · subst hj
      simp [h]
    · simp [hj]
  · simp [hb]
theorem gr_u_eq (I : gr_I) (a k : Nat) (z : Int) : gr_u I a k z a k = z := by simp [gr_u]
theorem gr_u_ne (I : gr_I) {a k b j : Nat} (z : Int) (h : ¬ (b = a ∧ j = k)) : gr_u I a k z b j = I b j := by
  unfold gr_u
  by_cases hb : b = a
  · rw [if_pos hb, if_neg (fun q => h ⟨hb, q⟩)]
  · rw [if_neg hb]
def gr_ft : List (Nat × Nat × Nat × Nat) := [(3, 13, 0, 0), (15, 13, 6, 0), (18, 13, 7, 9), (22, 13, 8, 9), (25, 13, 9, 9), (28, 13, 10, 9), (31, 13, 11, 9), (34, 13, 12, 9), (38, 13, 13, 9), (41, 13, 14, 9), (44, 13, 15, 9), (47, 13, 16, 9), (50, 13, 17, 9), (53, 13, 18, 9), (56, 13, 19, 9), (59, 13, 20, 9), (62, 13, 21, 9), (65, 13, 22, 9), (68, 13, 23, 9), (71, 13, 24, 9), (74, 13, 25, 9), (77, 13, 26, 9), (80, 13, 27, 9), (83, 13, 28, 9), (86, 13, 29, 9), (89, 13, 30, 9), (92, 13, 31, 9), (95, 13, 32, 9), (98, 13, 33, 9), (101, 13, 34, 9), (104, 13, 35, 9), (107, 13, 36, 9), (110, 13, 37, 9), (113, 13, 38, 9), (116, 13, 39, 9), (119, 13, 40, 9), (123, 13, 41, 9), (126, 13, 43, 9), (129, 13, 44, 9), (132, 13, 45, 9), (135, 13, 46, 9), (138, 13, 47, 9), (141, 13, 48, 9), (144, 13, 49, 9), (147, 13, 50, 9), (150, 13, 51, 9), (153, 13, 52, 9), (156, 13, 53, 9), (159, 13, 54, 9), (162, 13, 55, 9), (165, 13, 56, 9), (168, 13, 57, 9), (172, 13, 58, 9), (176, 13, 60, 9), (179, 13, 61, 9), (182, 13, 62, 9), (185, 13, 63, 9), (188, 13, 65, 9), (191, 13, 66, 9), (194, 13, 67, 9), (203, 13, 80, 9), (209, 13, 81, 9), (214, 13, 82, 9), (219, 13, 83, 9), (224, 13, 84, 9), (229, 13, 85, 9), (234, 13, 86, 9), (238, 13, 87, 9), (243, 13, 88, 9), (248, 13, 89, 9), (253, 13, 90, 9), (258, 13, 91, 9), (263, 13, 92, 9), (268, 13, 93, 9), (273, 13, 94, 9), (278, 13, 95, 9), (283, 13, 96, 9), (286, 13, 97, 9), (289, 13, 98, 9), (292, 13, 102, 9), (295, 13, 103, 9), (298, 13, 105, 9), (301, 13, 107, 9), (304, 13, 108, 9), (307, 13, 109, 9), (310, 13, 110, 9), (313, 13, 111, 9), (316, 13, 112, 9), (319, 13, 113, 9), (322, 13, 114, 9), (325, 13, 115, 9), (328, 13, 116, 9), (331, 13, 117, 9), (334, 13, 121, 9), (337, 13, 124, 9), (340, 13, 125, 9), (343, 13, 127, 0), (346, 13, 128, 0), (350, 13, 129, 9), (353, 13, 130, 9), (356, 13, 131, 9), (359, 13, 134, 9), (362, 13, 135, 9), (365, 13, 139, 9), (368, 13, 140, 9), (371, 13, 141, 9), (374, 13, 142, 9), (377, 13, 144, 9), (380, 13, 145, 9), (383, 13, 146, 9), (386, 13, 147, 9), (389, 13, 148, 9), (392, 13, 149, 9), (395, 13, 150, 9), (398, 13, 151, 9), (401, 13, 152, 9), (404, 13, 153, 9), (407, 13, 154, 9), (411, 13, 155, 9), (414, 13, 156, 9), (417, 13, 162, 9), (420, 13, 163, 9), (423, 13, 164, 9), (426, 13, 165, 9), (429, 13, 171, 9), (432, 13, 172, 9), (436, 13, 173, 9), (439, 13, 174, 9), (442, 13, 175, 9), (445, 13, 176, 9), (449, 13, 177, 0), (452, 13, 183, 9), (455, 13, 184, 9), (458, 13, 185, 9), (461, 13, 187, 9), (464, 13, 189, 9), (467, 13, 190, 9), (471, 13, 191, 9), (474, 13, 192, 9), (477, 13, 193, 9), (480, 13, 194, 9), (483, 13, 195, 9), (486, 13, 196, 9), (489, 13, 197, 9), (492, 13, 198, 9), (495, 13, 199, 9), (498, 13, 200, 9), (502, 13, 202, 9), (505, 13, 203, 9), (508, 13, 204, 9), (511, 13, 205, 9), (514, 13, 207, 9), (517, 13, 208, 9), (520, 13, 209, 9), (523, 13, 210, 9), (526, 13, 212, 9), (529, 13, 213, 9), (532, 13, 214, 9), (535, 13, 215, 9), (538, 13, 219, 9), (543, 13, 222, 9), (548, 13, 223, 9), (553, 13, 224, 9), (558, 13, 225, 9), (563, 13, 226, 9), (568, 13, 227, 9), (573, 13, 228, 9), (576, 13, 68, 0), (586, 13, 69, 0), (589, 13, 70, 0), (597, 13, 73, 0), (600, 13, 72, 0), (603, 13, 74, 0), (606, 13, 75, 3), (609, 13, 71, 0), (637, 13, 59, 0), (639, 13, 76, 0), (642, 13, 77, 0), (658, 13, 1, 0), (661, 13, 2, 0), (664, 13, 3, 0), (667, 13, 4, 0), (670, 13, 5, 0), (673, 13, 42, 0), (676, 13, 64, 0), (679, 13, 99, 0), (695, 13, 79, 0), (698, 13, 100, 0), (701, 13, 78, 0), (730, 13, 101, 0), (755, 13, 104, 0), (766, 13, 106, 0), (775, 13, 118, 0), (778, 13, 119, 0), (786, 13, 120, 0), (795, 13, 122, 0), (798, 13, 123, 0), (818, 13, 126, 0), (854, 13, 132, 0), (860, 13, 133, 0), (870, 13, 136, 0), (878, 13, 137, 0), (881, 13, 138, 0), (887, 13, 143, 0), (893, 13, 157, 0), (896, 13, 160, 1), (900, 13, 158, 0), (903, 13, 166, 0), (906, 13, 161, 0), (914, 13, 167, 0), (917, 13, 168, 0), (920, 13, 169, 0), (923, 13, 170, 0), (960, 13, 159, 0), (977, 13, 186, 0), (984, 13, 181, 3), (989, 13, 179, 0), (992, 13, 180, 0), (1011, 13, 188, 0), (1046, 13, 201, 0), (1049, 13, 206, 0), (1052, 13, 211, 0), (1070, 13, 216, 0), (1073, 13, 217, 0), (1076, 13, 218, 1), (1112, 13, 220, 0), (1115, 13, 221, 0)]
def gr_ct : List (Nat × gz_V) := [(122, .inl 42000), (171, .inl 82000), (349, .inl 36864), (410, .inl 36000), (435, .inl 48000), (470, .inl 288000), (501, .inl 57600), (592, .inr (.inl 255)), (758, .inl (-2147483648)), (762, .inl 2147483647), (909, .inl 400000), (955, .inr (.inl 1000000000000000000))]
def gq_a {α : Type} : List (Nat × α) → Nat → Option α
  | [], _ => none
  | q :: t, i => cond (Nat.beq q.1 i) (some q.2) (gq_a t i)
theorem gq_a_mem {α : Type} {i : Nat} {v : α} : ∀ {l : List (Nat × α)}, gq_a l i = some v → (i, v) ∈ l
  | [], h => by cases h
  | q :: t, h => by
    unfold gq_a at h
    cases hb : Nat.beq q.1 i with
    | true =>
      rw [hb] at h
      cases h
      have e : q.1 = i := Nat.eq_of_beq_eq_true hb
      subst e
      exact List.mem_cons_self
    | false =>
      rw [hb] at h
      exact List.mem_cons_of_mem _ (gq_a_mem h)
def gr_T : gz_T := (gq_a gr_ft, gq_a gr_ct)
def gr_cv : List (Nat × gx_M × Nat) := [(579, (yX13_bad, cX13_bad, 1, (some .int)), 0), (583, (yX13_four, cX13_four, 3, none), 1), (594, (yX13_outs, cX13_outs, 2, none), 1), (612, (yX13_low, cX13_low, 2, (some .boolean)), 1), (616, (yX13_dig, cX13_dig, 2, (some .boolean)), 1), (634, (yX13_size, cX13_size, 1, (some .int)), 0), (645, (yX13_no, cX13_no, 3, (some .boolean)), 2), (649, (yX13_sign, cX13_sign, 2, (some .boolean)), 1), (653, (yX13_no_, cX13_no_, 2, (some .boolean)), 1), (655, (yX13_next, cX13_next, 2, none), 0), (682, (yX13_reads, cX13_reads, 2, none), 0), (685, (yX13_remember, cX13_remember, 3, none), 0), (688, (yX13_statement, cX13_statement, 5, (some .boolean)), 0), (692, (yX13_forget, cX13_forget, 3, none), 0), (704, (yX13_tongue, cX13_tongue, 4, (some .boolean)), 0), (706, (yX13_kind, cX13_kind, 3, (some .boolean)), 0), (708, (yX13_fun, cX13_fun, 6, (some .boolean)), 0), (710, (yX13_feature, cX13_feature, 9, (some .boolean)), 0), (712, (yX13_lettersOf, cX13_lettersOf, 6, (some .boolean)), 0), (715, (yX13_sound, cX13_sound, 6, (some .boolean)), 0), (717, (yX13_pattern, cX13_pattern, 8, (some .boolean)), 0), (719, (yX13_wordOf, cX13_wordOf, 7, (some .boolean)), 0), (722, (yX13_lin, cX13_lin, 7, (some .boolean)), 0), (724, (yX13_mean, cX13_mean, 4, (some .boolean)), 0), (726, (yX13_thing, cX13_thing, 3, (some .boolean)), 0), (728, (yX13_fact, cX13_fact, 6, (some .boolean)), 0), (733, (yX13_is, cX13_is, 3, (some .boolean)), 1), (736, (yX13_name, cX13_name, 1, (some .boolean)), 0), (743, (yX13_done, cX13_done, 2, (some .boolean)), 1), (747, (yX13_need, cX13_need, 2, (some .boolean)), 1), (750, (yX13_cost, cX13_cost, 1, (some .boolean)), 0), (752, (yX13_keeps, cX13_keeps, 4, (some .int)), 0), (759, (yX13_context, cX13_context, 3, (some .boolean)), 1), (763, (yX13_side, cX13_side, 3, (some .boolean)), 1), (769, (yX13_oneValue, cX13_oneValue, 3, (some .boolean)), 0), (772, (yX13_form, cX13_form, 1, (some .boolean)), 0), (781, (yX13_item, cX13_item, 3, (some .boolean)), 1), (784, (yX13_said, cX13_said, 3, (some .boolean)), 1), (789, (yX13_argumentOf, cX13_argumentOf, 2, (some .boolean)), 1), (792, (yX13_featureOf, cX13_featureOf, 2, (some .boolean)), 0), (801, (yX13_term, cX13_term, 4, (some .int)), 1), (804, (yX13_none, cX13_none, 2, (some .int)), 1), (807, (yX13_node, cX13_node, 6, (some .int)), 4), (811, (yX13_atom, cX13_atom, 4, (some .int)), 1), (814, (yX13_isFact, cX13_isFact, 6, (some .boolean)), 3), (821, (yX13_stands, cX13_stands, 6, (some .int)), 3), (825, (yX13_right, cX13_right, 7, (some .boolean)), 3), (829, (yX13_left, cX13_left, 9, (some .boolean)), 3), (832, (yX13_isIn, cX13_isIn, 4, (some .boolean)), 3), (835, (yX13_sounded, cX13_sounded, 8, (some .int)), 1), (838, (yX13_cellsOf, cX13_cellsOf, 3, (some .int)), 2), (842, (yX13_joined, cX13_joined, 9, (some .int)), 3), (845, (yX13_noTongue, cX13_noTongue, 2, (some .boolean)), 1), (848, (yX13_oneWord, cX13_oneWord, 2, (some .boolean)), 0), (851, (yX13_outBuf, cX13_outBuf, 2, none), 0), (857, (yX13_forms, cX13_forms, 6, none), 1), (863, (yX13_isForm, cX13_isForm, 6, (some .boolean)), 4), (867, (yX13_valuesOf, cX13_valuesOf, 7, (some .int)), 3), (884, (yX13_endsSo, cX13_endsSo, 5, (some .boolean)), 3), (910, (yX13_leaves, cX13_leaves, 6, none), 3), (926, (yX13_match, cX13_match, 12, none), 2), (930, (yX13_orderWays, cX13_orderWays, 9, none), 0), (933, (yX13_isWord, cX13_isWord, 3, (some .boolean)), 2), (936, (yX13_nodeOf, cX13_nodeOf, 9, (some .int)), 4), (940, (yX13_wayOf, cX13_wayOf, 6, (some .int)), 4), (943, (yX13_finish, cX13_finish, 6, none), 0), (949, (yX13_saidOf, cX13_saidOf, 6, (some .int)), 1), (952, (yX13_wayOrder, cX13_wayOrder, 6, (some .int)), 2), (966, (yX13_tops, cX13_tops, 7, none), 4), (973, (yX13_combine, cX13_combine, 11, none), 8), (980, (yX13_ahead, cX13_ahead, 5, (some .boolean)), 4), (986, (yX13_chart, cX13_chart, 7, (some .boolean)), 1), (995, (yX13_counted, cX13_counted, 9, (some .long)), 0), (999, (yX13_noKind, cX13_noKind, 2, (some .boolean)), 1), (1002, (yX13_sentence, cX13_sentence, 3, (some .boolean)), 0), (1005, (yX13_noForest, cX13_noForest, 1, none), 0), (1008, (yX13_parsed, cX13_parsed, 4, (some .int)), 2), (1014, (yX13_read, cX13_read, 10, none), 2), (1017, (yX13_noPlace, cX13_noPlace, 2, (some .boolean)), 1), (1020, (yX13_noTree, cX13_noTree, 4, (some .boolean)), 1), (1023, (yX13_outName, cX13_outName, 4, none), 1), (1027, (yX13_shown, cX13_shown, 5, (some .int)), 1), (1030, (yX13_takes, cX13_takes, 3, (some .int)), 1), (1033, (yX13_options, cX13_options, 10, (some .int)), 2), (1036, (yX13_slot, cX13_slot, 7, (some .int)), 3), (1039, (yX13_puts, cX13_puts, 12, none), 5), (1043, (yX13_ready, cX13_ready, 12, none), 4), (1055, (yX13_hitsWord, cX13_hitsWord, 6, (some .boolean)), 3), (1058, (yX13_mended, cX13_mended, 11, (some .int)), 2), (1061, (yX13_outSentence, cX13_outSentence, 3, none), 0), (1064, (yX13_word_, cX13_word_, 6, none), 4), (1067, (yX13_back, cX13_back, 5, none), 2), (1079, (yX13_heap, cX13_heap, 6, (some .int)), 4), (1082, (yX13_composed, cX13_composed, 6, (some .int)), 2), (1085, (yX13_raised, cX13_raised, 5, (some .int)), 3), (1088, (yX13_redex, cX13_redex, 3, (some .int)), 1), (1091, (yX13_put, cX13_put, 5, (some .int)), 3), (1094, (yX13_stepped, cX13_stepped, 4, (some .int)), 2), (1097, (yX13_argumentsOf, cX13_argumentsOf, 4, (some .int)), 1), (1100, (yX13_outNumber, cX13_outNumber, 2, none), 1), (1103, (yX13_outTerm, cX13_outTerm, 3, none), 2), (1106, (yX13_outApplied, cX13_outApplied, 4, none), 2), (1109, (yX13_means, cX13_means, 5, (some .int)), 0), (1118, (yX13_holds, cX13_holds, 12, (some .int)), 1), (1121, (yX13_thingOf, cX13_thingOf, 2, (some .int)), 1)]
def gr_cs : List (Nat × gx_M × Nat) := [(199, (yX13_word, cX13_word, 4, (some .long)), 1), (739, (yX13_find, cX13_find, 6, (some .int)), 4), (890, (yX13_compare, cX13_compare, 3, (some .int)), 2), (946, (yX13_fitted, cX13_fitted, 6, (some .int)), 2), (963, (yX13_plus, cX13_plus, 4, (some .long)), 2), (970, (yX13_times, cX13_times, 4, (some .long)), 2)]
def gr_mm : List Cond := [gx_code gj_Mi, Cond.methodLink RX13 873 gj_Mi.1, Cond.static gj_Mi.1, Cond.initialized gj_Mi.1.cls, gx_code gj_Ml, Cond.methodLink RX13 957 gj_Ml.1, Cond.static gj_Ml.1, Cond.initialized gj_Ml.1.cls]
def gr_ws : List Cond := gr_cv.flatMap (fun q => [gx_code q.2.1, Cond.methodLink RX13 q.1 q.2.1.1, Cond.instanceMethod q.2.1.1, Cond.selects RX13 q.2.1.1 q.2.1.1, Cond.initialized RX13]) ++ gr_cs.flatMap (fun q => [gx_code q.2.1, Cond.methodLink RX13 q.1 q.2.1.1, Cond.static q.2.1.1, Cond.initialized RX13]) ++ ([gx_code gz_Mx, Cond.methodLink RX13 621 gz_Mx.1, Cond.instanceMethod gz_Mx.1, Cond.selects gz_Mx.1.cls gz_Mx.1 gz_Mx.1, Cond.initialized gz_Mx.1.cls] ++ gr_mm)
theorem gr_lX {ws0 : List Cond} (hws : ∀ w ∈ gr_ws, w ∈ ws0) : gx_lV ws0 RX13 621 gz_Mx 1 := by
  have hw : ∀ w ∈ [gx_code gz_Mx, Cond.methodLink RX13 621 gz_Mx.1, Cond.instanceMethod gz_Mx.1, Cond.selects gz_Mx.1.cls gz_Mx.1 gz_Mx.1, Cond.initialized gz_Mx.1.cls], w ∈ ws0 := fun w hw => hws w (List.mem_append_right _ (List.mem_append_left _ hw))
  refine ⟨hw _ (by simp), hw _ (by simp), hw _ (by simp), hw _ (by simp), hw _ (by simp), ?_, by decide⟩
  decide +kernel
theorem gr_lMi {ws0 : List Cond} (hws : ∀ w ∈ gr_ws, w ∈ ws0) : gx_lS ws0 RX13 873 gj_Mi 2 := by
  have hw : ∀ w ∈ gr_mm, w ∈ ws0 := fun w hw => hws w (List.mem_append_right _ (List.mem_append_right _ hw))
  refine ⟨hw _ (by simp [gr_mm]), hw _ (by simp [gr_mm]), hw _ (by simp [gr_mm]), hw _ (by simp [gr_mm]), ?_, by decide⟩
  decide +kernel
theorem gr_lMl {ws0 : List Cond} (hws : ∀ w ∈ gr_ws, w ∈ ws0) : gx_lS ws0 RX13 957 gj_Ml 2 := by
  have hw : ∀ w ∈ gr_mm, w ∈ ws0 := fun w hw => hws w (List.mem_append_right _ (List.mem_append_right _ hw))
  refine ⟨hw _ (by simp [gr_mm]), hw _ (by simp [gr_mm]), hw _ (by simp [gr_mm]), hw _ (by simp [gr_mm]), ?_, by decide⟩
  decide +kernel
def gr_am (q : Nat × gx_M × Nat) : Bool := decide (q.2.1.1.cls = RX13) && (decide ((parseMethodDescriptor q.2.1.1.desc).map (fun d => d.parameters.length) = some q.2.2) && decide (q.2.1.2.2.1 ≤ 45))
theorem gr_amV : gr_cv.all gr_am = true := by decide +kernel
theorem gr_amS : gr_cs.all gr_am = true := by decide +kernel
theorem gr_nMH : RX13 ≠ "java/lang/invoke/MethodHandle" ∧ RX13 ≠ "java/lang/invoke/VarHandle" := by decide +kernel
theorem gr_lV {ws0 : List Cond} (hws : ∀ w ∈ gr_ws, w ∈ ws0) {ix n : Nat} {M : gx_M} (h : gq_a gr_cv ix = some (M, n)) : gx_lV ws0 RX13 ix M n := by
  have hm := gq_a_mem h
  have h1 := List.all_eq_true.mp gr_amV _ hm
  unfold gr_am at h1
  rw [Bool.and_eq_true, Bool.and_eq_true, decide_eq_true_eq, decide_eq_true_eq, decide_eq_true_eq] at h1
  obtain ⟨h2, h3, h4⟩ := h1
  have hw : ∀ w ∈ [gx_code M, Cond.methodLink RX13 ix M.1, Cond.instanceMethod M.1, Cond.selects RX13 M.1 M.1, Cond.initialized RX13], w ∈ ws0 := fun w hw => hws w (List.mem_append_left _ (List.mem_append_left _ (List.mem_flatMap.mpr ⟨_, hm, hw⟩)))
  dsimp only at h2 h3 h4
  refine ⟨hw _ (by simp), hw _ (by simp), hw _ (by simp), ?_, ?_, ?_, h4⟩
  · rw [h2]; exact hw _ (by simp)
  · rw [h2]; exact hw _ (by simp)
  · rw [h2]; exact ⟨gr_nMH.1, gr_nMH.2, h3⟩
theorem gr_lS {ws0 : List Cond} (hws : ∀ w ∈ gr_ws, w ∈ ws0) {ix n : Nat} {M : gx_M} (h : gq_a gr_cs ix = some (M, n)) : gx_lS ws0 RX13 ix M n := by
  have hm := gq_a_mem h
  have h1 := List.all_eq_true.mp gr_amS _ hm
  unfold gr_am at h1
  rw [Bool.and_eq_true, Bool.and_eq_true, decide_eq_true_eq, decide_eq_true_eq, decide_eq_true_eq] at h1
  obtain ⟨h2, h3, h4⟩ := h1
  have hw : ∀ w ∈ [gx_code M, Cond.methodLink RX13 ix M.1, Cond.static M.1, Cond.initialized RX13], w ∈ ws0 := fun w hw => hws w (List.mem_append_left _ (List.mem_append_right _ (List.mem_flatMap.mpr ⟨_, hm, hw⟩)))
  dsimp only at h2 h3 h4
  refine ⟨hw _ (by simp), hw _ (by simp), hw _ (by simp), ?_, ?_, h4⟩
  · rw [h2]; exact hw _ (by simp)
  · rw [h2]; exact ⟨gr_nMH.1, gr_nMH.2, h3⟩
/-- a method of the reference: what its walk stands on -/
def gr_E (ws0 : List Cond) (tb : String → gz_T) (d : Nat) (M : gx_M) (l : Nat → Option Instr) : gv_E := (ws0, RX13, gr_T, M.2.1, M.2.2.1, gz_Ev ws0 tb d, l)
theorem gr_ev {ws0 : List Cond} {tb : String → gz_T} (htb : tb RX13 = gr_T) {d : Nat} {M : gx_M} {l : Nat → Option Instr} {av : List gz_V} {sh : gz_Sh} {h : gz_H} {Po : Option gz_V → gz_H → Prop} (hc : M.1.cls = RX13) (hn : (av.map gz_c).sum ≤ M.2.2.1) (hX : gv_X (gr_E ws0 tb d M l) (gv_Q M.2.1 M.2.2.2 sh Po) (0, gz_args 0 av, [], sh, h)) : ∃ r hₚ, gz_Ev ws0 tb (d + 1) M av sh h r sh hₚ 0 0 ∧ Po r hₚ := by
  refine gv_ev (code := l) (hp := by rw [hc]; decide) hn ?_
  rw [hc, htb]
  exact hX
