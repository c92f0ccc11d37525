noncomputable def nd (L : List Cond) (k : Nat) : List Cond := @Nat.rec (fun _ => List Cond) L (fun _ r => List.drop 16 r) k
theorem nd_in (L : List Cond) : ∀ (k : Nat) (w : Cond), w ∈ nd L k → w ∈ L := by
  intro k
  induction k with
  | zero => intro w h; exact h
  | succ k ih =>
    intro w h
    have h2 : w ∈ List.drop 16 (nd L k) := h
    exact ih w (List.mem_of_mem_drop h2)
theorem mem_n {big : List Cond} (ws : List Cond) (ps : List (Nat × Nat)) (hp : ws = ps.filterMap (fun q => (nd big q.1)[q.2]?)) : ∀ w ∈ ws, w ∈ big := by
  intro w hw
  rw [hp] at hw
  obtain ⟨i, -, hi⟩ := List.mem_filterMap.mp hw
  exact nd_in big i.1 w (List.mem_of_getElem? hi)
theorem goodIn_n {big : List Cond} (ws : List Cond) (ps : List (Nat × Nat)) (hp : ws = ps.filterMap (fun q => (nd big q.1)[q.2]?)) (h : ws.all goodWord = true) : GoodIn big ws :=
  fun w hw => ⟨mem_n ws ps hp w hw, good_of_word (List.all_eq_true.mp h w hw)⟩
set_option maxRecDepth 100000 in
set_option maxHeartbeats 4000000 in
theorem wl_r1 : ∀ w ∈ wsL_law_r1, w ∈ lw_tbl := mem_n _ [(7, 11), (7, 12), (6, 9), (62, 7), (62, 8), (7, 4), (7, 13), (7, 14), (7, 15), (8, 0), (8, 1), (8, 2), (8, 3), (8, 4), (6, 10), (23, 0), (23, 1), (23, 2), (18, 4), (23, 3), (16, 0), (16, 1), (6, 14), (23, 5)] (by decide +kernel)
set_option maxRecDepth 100000 in
set_option maxHeartbeats 4000000 in
theorem wl_r2 : ∀ w ∈ wsL_law_r2, w ∈ lw_tbl := mem_n _ [(23, 4), (19, 0), (8, 10), (6, 11), (23, 6), (19, 2), (19, 3), (7, 0), (23, 7), (19, 12), (19, 13), (7, 1), (23, 8), (21, 1), (21, 2), (7, 2), (23, 9), (22, 6), (22, 7), (7, 3), (23, 10), (23, 11), (23, 12), (8, 6)] (by decide +kernel)
set_option maxRecDepth 100000 in
set_option maxHeartbeats 4000000 in
theorem wl_r3 : ∀ w ∈ wsL_law_r3, w ∈ lw_tbl := mem_n _ [(8, 7), (8, 8), (10, 4), (11, 14), (12, 1), (12, 3), (12, 4), (12, 6), (8, 9), (12, 9), (12, 15), (10, 6), (10, 7), (6, 12), (13, 0), (13, 3), (13, 6), (8, 12), (8, 13), (8, 14), (9, 2), (9, 7), (9, 9), (10, 9)] (by decide +kernel)
set_option maxRecDepth 100000 in
set_option maxHeartbeats 4000000 in
theorem wl_r4 : ∀ w ∈ wsL_law_r4, w ∈ lw_tbl := mem_n _ [(10, 10), (10, 11), (11, 1), (10, 12), (10, 13), (6, 13), (10, 14), (10, 15), (11, 0), (16, 3), (16, 4), (16, 5), (16, 6), (16, 7), (6, 15), (18, 5), (18, 7), (16, 9), (16, 10), (16, 11), (16, 12), (16, 13), (16, 15), (17, 1)] (by decide +kernel)
set_option maxRecDepth 100000 in
set_option maxHeartbeats 4000000 in
theorem wl_r5 : ∀ w ∈ wsL_law_r5, w ∈ lw_tbl := mem_n _ [(19, 5), (19, 6), (19, 7), (19, 8), (19, 15), (20, 0), (20, 1), (20, 2), (20, 3), (20, 4), (21, 4), (21, 5), (21, 6), (21, 7), (21, 8), (21, 9), (22, 9), (22, 10), (22, 11), (22, 12), (62, 9), (62, 10), (62, 11), (62, 12)] (by decide +kernel)
set_option maxRecDepth 100000 in
set_option maxHeartbeats 4000000 in
theorem wl_r6 : ∀ w ∈ wsL_law_r6, w ∈ lw_tbl := mem_n _ [(63, 0), (63, 1), (63, 2), (63, 3), (63, 5), (63, 6), (63, 7), (63, 8), (63, 9), (63, 10), (63, 11), (63, 12), (63, 13), (64, 3), (64, 4), (62, 13), (62, 14), (62, 15), (26, 1), (26, 2), (26, 3), (26, 4), (26, 7), (0, 0)] (by decide +kernel)
set_option maxRecDepth 100000 in
set_option maxHeartbeats 4000000 in
theorem wl_r7 : ∀ w ∈ wsL_law_r7, w ∈ lw_tbl := mem_n _ [(26, 8), (13, 10), (13, 13), (14, 2), (26, 11), (0, 1), (26, 12), (11, 2), (67, 0), (67, 1), (67, 2), (67, 3), (67, 4), (67, 6), (4, 6), (67, 7), (26, 13), (26, 14), (26, 15), (27, 0), (27, 1), (27, 2), (27, 3), (27, 4)] (by decide +kernel)
set_option maxRecDepth 100000 in
set_option maxHeartbeats 4000000 in
theorem wl_r8 : ∀ w ∈ wsL_law_r8, w ∈ lw_tbl := mem_n _ [(27, 6), (0, 2), (27, 7), (23, 13), (67, 8), (67, 9), (67, 10), (67, 11), (67, 12), (67, 13), (67, 14), (67, 15), (68, 0), (68, 1), (68, 2), (68, 3), (68, 4), (68, 6), (4, 7), (68, 7), (27, 8), (27, 9), (27, 10), (27, 11)] (by decide +kernel)
set_option maxRecDepth 100000 in
set_option maxHeartbeats 4000000 in
theorem wl_r9 : ∀ w ∈ wsL_law_r9, w ∈ lw_tbl := mem_n _ [(27, 12), (27, 14), (0, 3), (27, 15), (23, 15), (28, 2), (0, 4), (28, 3), (68, 8), (68, 9), (68, 10), (68, 11), (68, 15), (69, 0), (68, 12), (68, 13), (68, 14), (69, 1), (69, 3), (4, 8), (69, 4), (69, 5), (69, 6), (69, 7)] (by decide +kernel)
set_option maxRecDepth 100000 in
set_option maxHeartbeats 4000000 in
theorem wl_r10 : ∀ w ∈ wsL_law_r10, w ∈ lw_tbl := mem_n _ [(28, 4), (28, 5), (28, 6), (28, 7), (28, 10), (0, 5), (28, 11), (69, 8), (69, 9), (69, 10), (69, 11), (69, 12), (69, 13), (69, 14), (69, 15), (70, 0), (70, 1), (70, 2), (28, 12), (28, 13), (28, 14), (28, 15), (29, 2), (0, 6)] (by decide +kernel)
set_option maxRecDepth 100000 in
set_option maxHeartbeats 4000000 in
theorem wl_r11 : ∀ w ∈ wsL_law_r11, w ∈ lw_tbl := mem_n _ [(29, 3), (17, 3), (83, 7), (83, 8), (83, 9), (83, 10), (83, 11), (63, 14), (29, 4), (29, 5), (29, 6), (29, 7), (83, 12), (83, 13), (83, 14), (83, 15), (29, 8), (29, 9), (29, 10), (29, 11), (29, 14), (0, 7), (29, 15), (18, 8)] (by decide +kernel)
set_option maxRecDepth 100000 in
set_option maxHeartbeats 4000000 in
theorem wl_r12 : ∀ w ∈ wsL_law_r12, w ∈ lw_tbl := mem_n _ [(30, 2), (0, 8), (30, 3), (17, 5), (30, 4), (30, 6), (0, 9), (30, 7), (30, 8), (30, 9), (30, 10), (30, 11), (30, 13), (0, 10), (30, 14), (31, 0), (31, 2), (0, 11), (31, 3), (31, 4), (31, 5), (31, 6), (7, 5), (31, 7)] (by decide +kernel)
set_option maxRecDepth 100000 in
set_option maxHeartbeats 4000000 in
theorem wl_r13 : ∀ w ∈ wsL_law_r13, w ∈ lw_tbl := mem_n _ [(90, 1), (31, 8), (31, 9), (31, 10), (31, 11), (31, 12), (90, 2), (31, 14), (31, 15), (32, 0), (32, 1), (32, 2), (32, 3), (32, 4), (32, 5), (32, 6), (32, 7), (7, 6), (32, 8), (32, 9), (32, 10), (32, 11), (32, 12), (32, 14)] (by decide +kernel)
set_option maxRecDepth 100000 in
set_option maxHeartbeats 4000000 in
theorem wl_r14 : ∀ w ∈ wsL_law_r14, w ∈ lw_tbl := mem_n _ [(32, 15), (7, 7), (33, 0), (33, 1), (33, 2), (7, 8), (33, 3), (33, 4), (33, 5), (33, 6), (33, 7), (33, 8), (33, 9), (33, 10), (33, 11), (33, 12), (33, 13), (33, 14), (34, 0), (34, 2), (34, 10), (34, 12), (0, 12), (34, 13)] (by decide +kernel)
set_option maxRecDepth 100000 in
set_option maxHeartbeats 4000000 in
theorem wl_r15 : ∀ w ∈ wsL_law_r15, w ∈ lw_tbl := mem_n _ [(34, 14), (34, 15), (35, 0), (35, 2), (35, 4), (0, 13), (35, 5), (35, 6), (35, 8), (0, 14), (35, 9), (35, 10), (35, 12), (0, 15), (35, 13), (35, 14), (36, 0), (1, 0), (36, 1), (36, 2), (36, 4), (1, 1), (36, 5), (36, 6)] (by decide +kernel)
set_option maxRecDepth 100000 in
set_option maxHeartbeats 4000000 in
theorem wl_r16 : ∀ w ∈ wsL_law_r16, w ∈ lw_tbl := mem_n _ [(36, 8), (1, 2), (36, 9), (36, 10), (36, 12), (1, 3), (36, 13), (36, 14), (37, 0), (1, 4), (37, 1), (37, 3), (37, 5), (1, 5), (37, 6), (37, 8), (37, 10), (1, 6), (37, 11), (37, 13), (37, 15), (1, 7), (38, 0), (38, 1)] (by decide +kernel)
set_option maxRecDepth 100000 in
set_option maxHeartbeats 4000000 in
theorem wl_r17 : ∀ w ∈ wsL_law_r17, w ∈ lw_tbl := mem_n _ [(38, 3), (1, 8), (38, 4), (38, 7), (1, 9), (38, 8), (38, 11), (1, 10), (38, 12), (38, 15), (1, 11), (39, 0), (39, 1), (39, 3), (1, 12), (39, 4), (40, 6), (39, 5), (39, 7), (1, 13), (39, 8), (39, 9), (39, 10), (6, 13)] (by decide +kernel)
set_option maxRecDepth 100000 in
set_option maxHeartbeats 4000000 in
theorem wl_r18 : ∀ w ∈ wsL_law_r18, w ∈ lw_tbl := mem_n _ [(39, 11), (39, 13), (7, 9), (39, 14), (39, 15), (40, 0), (40, 1), (40, 2), (40, 4), (40, 5), (40, 7), (40, 9), (1, 14), (40, 10), (40, 13), (1, 15), (40, 14), (40, 15), (41, 1), (2, 0), (41, 2), (41, 5), (2, 1), (41, 6)] (by decide +kernel)
set_option maxRecDepth 100000 in
set_option maxHeartbeats 4000000 in
theorem wl_r19 : ∀ w ∈ wsL_law_r19, w ∈ lw_tbl := mem_n _ [(41, 9), (2, 2), (41, 10), (8, 15), (84, 0), (84, 1), (84, 2), (84, 3), (63, 15), (64, 1), (84, 4), (84, 6), (5, 10), (84, 7), (64, 0), (64, 2), (84, 8), (84, 9), (84, 10), (84, 11), (84, 12), (84, 13), (84, 14), (84, 15)] (by decide +kernel)
set_option maxRecDepth 100000 in
set_option maxHeartbeats 4000000 in
theorem wl_r20 : ∀ w ∈ wsL_law_r20, w ∈ lw_tbl := mem_n _ [(85, 0), (85, 1), (85, 2), (85, 4), (5, 11), (85, 5), (85, 6), (85, 8), (5, 12), (85, 9), (85, 10), (85, 12), (5, 13), (85, 13), (85, 14), (86, 0), (5, 14), (86, 1), (86, 2), (86, 4), (5, 15), (86, 5), (86, 6), (86, 8)] (by decide +kernel)
set_option maxRecDepth 100000 in
set_option maxHeartbeats 4000000 in
theorem wl_r21 : ∀ w ∈ wsL_law_r21, w ∈ lw_tbl := mem_n _ [(6, 0), (86, 9), (86, 10), (86, 12), (6, 1), (86, 13), (86, 14), (87, 0), (6, 2), (87, 1), (87, 2), (87, 4), (6, 3), (87, 5), (71, 2), (71, 3), (71, 4), (73, 7), (73, 8), (73, 9), (72, 8), (72, 9), (72, 10), (72, 11)] (by decide +kernel)
set_option maxRecDepth 100000 in
set_option maxHeartbeats 4000000 in
theorem wl_r22 : ∀ w ∈ wsL_law_r22, w ∈ lw_tbl := mem_n _ [(72, 12), (72, 13), (72, 14), (72, 15), (73, 0), (73, 1), (73, 2), (73, 3), (73, 4), (73, 5), (73, 6), (87, 6), (87, 8), (6, 4), (87, 9), (73, 14), (73, 15), (74, 0), (87, 10), (87, 12), (6, 5), (87, 13), (70, 12), (70, 13)] (by decide +kernel)
set_option maxRecDepth 100000 in
set_option maxHeartbeats 4000000 in
theorem wl_r23 : ∀ w ∈ wsL_law_r23, w ∈ lw_tbl := mem_n _ [(70, 14), (70, 15), (71, 0), (71, 1), (41, 12), (41, 13), (41, 14), (41, 15), (42, 2), (2, 3), (42, 3), (42, 4), (42, 6), (2, 4), (42, 7), (42, 10), (2, 5), (42, 11), (42, 12), (42, 14), (42, 13), (7, 10), (43, 2), (2, 6)] (by decide +kernel)
set_option maxRecDepth 100000 in
set_option maxHeartbeats 4000000 in
theorem wl_r24 : ∀ w ∈ wsL_law_r24, w ∈ lw_tbl := mem_n _ [(43, 3), (70, 3), (70, 4), (70, 5), (70, 6), (70, 7), (70, 8), (70, 10), (4, 9), (70, 11), (71, 5), (71, 6), (71, 7), (43, 4), (43, 5), (43, 6), (43, 7), (43, 10), (2, 7), (43, 11), (43, 14), (44, 0), (2, 8), (44, 1)] (by decide +kernel)
set_option maxRecDepth 100000 in
set_option maxHeartbeats 4000000 in
theorem wl_r25 : ∀ w ∈ wsL_law_r25, w ∈ lw_tbl := mem_n _ [(23, 14), (71, 8), (71, 9), (71, 10), (71, 11), (71, 12), (71, 14), (4, 10), (71, 15), (72, 0), (72, 2), (4, 11), (72, 3), (72, 4), (72, 6), (4, 12), (72, 7), (44, 3), (44, 4), (44, 5), (44, 6), (73, 10), (73, 11), (73, 12)] (by decide +kernel)
set_option maxRecDepth 100000 in
set_option maxHeartbeats 4000000 in
theorem wl_r26 : ∀ w ∈ wsL_law_r26, w ∈ lw_tbl := mem_n _ [(73, 13), (44, 8), (44, 9), (44, 10), (44, 11), (44, 14), (2, 9), (44, 15), (74, 1), (74, 2), (74, 3), (74, 4), (45, 0), (45, 1), (45, 2), (45, 3), (45, 6), (2, 10), (45, 7), (45, 8), (45, 10), (2, 11), (45, 11), (45, 12)] (by decide +kernel)
set_option maxRecDepth 100000 in
set_option maxHeartbeats 4000000 in
theorem wl_r27 : ∀ w ∈ wsL_law_r27, w ∈ lw_tbl := mem_n _ [(74, 5), (74, 6), (74, 7), (74, 8), (74, 9), (74, 11), (4, 13), (74, 12), (45, 13), (45, 14), (45, 15), (46, 0), (74, 13), (74, 14), (74, 15), (75, 0), (46, 1), (46, 2), (46, 3), (46, 4), (75, 1), (75, 2), (75, 3), (75, 4)] (by decide +kernel)
set_option maxRecDepth 100000 in
set_option maxHeartbeats 4000000 in
theorem wl_r28 : ∀ w ∈ wsL_law_r28, w ∈ lw_tbl := mem_n _ [(75, 5), (75, 7), (4, 14), (75, 8), (75, 9), (75, 11), (4, 15), (75, 12), (46, 6), (46, 7), (46, 8), (46, 9), (46, 12), (2, 12), (46, 13), (75, 13), (75, 14), (75, 15), (76, 0), (46, 14), (46, 15), (47, 0), (47, 1), (76, 1)] (by decide +kernel)
set_option maxRecDepth 100000 in
set_option maxHeartbeats 4000000 in
theorem wl_r29 : ∀ w ∈ wsL_law_r29, w ∈ lw_tbl := mem_n _ [(76, 2), (76, 3), (76, 4), (47, 2), (47, 3), (47, 4), (47, 5), (47, 8), (2, 13), (47, 9), (76, 5), (76, 6), (76, 7), (76, 8), (47, 10), (47, 11), (47, 12), (47, 13), (47, 14), (48, 0), (2, 14), (48, 1), (48, 4), (2, 15)] (by decide +kernel)
set_option maxRecDepth 100000 in
set_option maxHeartbeats 4000000 in
theorem wl_r30 : ∀ w ∈ wsL_law_r30, w ∈ lw_tbl := mem_n _ [(48, 5), (48, 6), (48, 10), (3, 0), (48, 11), (48, 12), (48, 14), (3, 1), (48, 15), (76, 9), (76, 10), (76, 11), (76, 12), (77, 1), (76, 13), (76, 15), (5, 0), (77, 0), (49, 0), (49, 1), (49, 2), (49, 3), (49, 6), (3, 2)] (by decide +kernel)
set_option maxRecDepth 100000 in
set_option maxHeartbeats 4000000 in
theorem wl_r31 : ∀ w ∈ wsL_law_r31, w ∈ lw_tbl := mem_n _ [(49, 7), (49, 8), (20, 6), (49, 9), (49, 10), (49, 11), (49, 12), (49, 14), (3, 3), (49, 15), (77, 2), (77, 3), (77, 4), (77, 5), (77, 6), (77, 8), (5, 1), (77, 9), (50, 1), (50, 2), (50, 3), (50, 4), (50, 7), (3, 4)] (by decide +kernel)
set_option maxRecDepth 100000 in
set_option maxHeartbeats 4000000 in
theorem wl_r32 : ∀ w ∈ wsL_law_r32, w ∈ lw_tbl := mem_n _ [(50, 8), (50, 11), (3, 5), (50, 12), (50, 13), (77, 10), (77, 11), (77, 12), (77, 13), (77, 14), (78, 0), (5, 2), (78, 1), (50, 14), (50, 15), (51, 0), (51, 1), (51, 4), (3, 6), (51, 5), (51, 6), (51, 7), (51, 8), (52, 1)] (by decide +kernel)
set_option maxRecDepth 100000 in
set_option maxHeartbeats 4000000 in
theorem wl_r33 : ∀ w ∈ wsL_law_r33, w ∈ lw_tbl := mem_n _ [(51, 11), (3, 7), (51, 12), (78, 2), (78, 3), (78, 4), (78, 5), (78, 6), (78, 7), (78, 9), (5, 3), (78, 10), (52, 2), (52, 3), (52, 4), (52, 5), (78, 11), (78, 12), (78, 13), (78, 14), (52, 6), (52, 7), (52, 8), (52, 9)] (by decide +kernel)
set_option maxRecDepth 100000 in
set_option maxHeartbeats 4000000 in
theorem wl_r34 : ∀ w ∈ wsL_law_r34, w ∈ lw_tbl := mem_n _ [(78, 15), (79, 0), (79, 1), (79, 2), (79, 3), (52, 10), (52, 11), (52, 12), (52, 13), (79, 4), (79, 5), (79, 6), (79, 7), (52, 15), (53, 0), (53, 1), (53, 2), (53, 5), (3, 8), (53, 6), (53, 7), (53, 8), (53, 9), (79, 8)] (by decide +kernel)
set_option maxRecDepth 100000 in
set_option maxHeartbeats 4000000 in
theorem wl_r35 : ∀ w ∈ wsL_law_r35, w ∈ lw_tbl := mem_n _ [(79, 9), (79, 10), (79, 11), (79, 12), (79, 14), (5, 4), (79, 15), (53, 10), (53, 11), (53, 12), (53, 13), (54, 0), (3, 9), (54, 1), (54, 3), (54, 2), (54, 4), (54, 6), (3, 10), (54, 7), (80, 0), (80, 1), (80, 2), (80, 3)] (by decide +kernel)
set_option maxRecDepth 100000 in
set_option maxHeartbeats 4000000 in
theorem wl_r36 : ∀ w ∈ wsL_law_r36, w ∈ lw_tbl := mem_n _ [(80, 4), (80, 6), (5, 5), (80, 7), (80, 8), (80, 9), (80, 10), (54, 8), (54, 9), (54, 10), (54, 11), (54, 14), (3, 11), (54, 15), (55, 0), (55, 1), (55, 2), (80, 11), (80, 12), (80, 13), (80, 14), (80, 15), (81, 1), (5, 6)] (by decide +kernel)
set_option maxRecDepth 100000 in
set_option maxHeartbeats 4000000 in
theorem wl_r37 : ∀ w ∈ wsL_law_r37, w ∈ lw_tbl := mem_n _ [(81, 2), (55, 4), (55, 5), (55, 6), (55, 7), (55, 10), (3, 12), (55, 11), (55, 12), (81, 3), (81, 4), (81, 5), (81, 6), (55, 13), (55, 14), (55, 15), (56, 0), (56, 3), (3, 13), (56, 4), (21, 11), (56, 7), (56, 8), (56, 9)] (by decide +kernel)
set_option maxRecDepth 100000 in
set_option maxHeartbeats 4000000 in
theorem wl_r38 : ∀ w ∈ wsL_law_r38, w ∈ lw_tbl := mem_n _ [(56, 10), (56, 11), (56, 12), (81, 7), (81, 8), (81, 9), (81, 10), (81, 11), (81, 13), (5, 7), (81, 14), (81, 15), (82, 1), (5, 8), (82, 2), (56, 13), (56, 14), (56, 15), (57, 0), (57, 9), (57, 3), (3, 14), (57, 4), (57, 5)] (by decide +kernel)
set_option maxRecDepth 100000 in
set_option maxHeartbeats 4000000 in
theorem wl_r39 : ∀ w ∈ wsL_law_r39, w ∈ lw_tbl := mem_n _ [(57, 7), (3, 15), (57, 8), (57, 10), (57, 11), (57, 12), (57, 13), (57, 14), (57, 15), (82, 3), (82, 4), (82, 5), (82, 6), (82, 7), (82, 8), (82, 10), (5, 9), (82, 11), (63, 4), (58, 0), (58, 1), (58, 2), (58, 3), (58, 4)] (by decide +kernel)
set_option maxRecDepth 100000 in
set_option maxHeartbeats 4000000 in
theorem wl_r40 : ∀ w ∈ wsL_law_r40, w ∈ lw_tbl := mem_n _ [(58, 6), (58, 7), (58, 8), (58, 9), (58, 10), (58, 11), (58, 12), (82, 12), (82, 13), (82, 14), (82, 15), (83, 0), (83, 1), (83, 2), (83, 3), (83, 4), (83, 5), (83, 6), (58, 14), (58, 15), (59, 0), (59, 1), (87, 14), (87, 15)] (by decide +kernel)
set_option maxRecDepth 100000 in
set_option maxHeartbeats 4000000 in
theorem wl_r41 : ∀ w ∈ wsL_law_r41, w ∈ lw_tbl := mem_n _ [(88, 0), (88, 1), (59, 2), (59, 3), (59, 4), (59, 5), (59, 8), (4, 0), (59, 9), (59, 10), (59, 13), (4, 1), (59, 14), (59, 15), (88, 2), (88, 3), (88, 4), (88, 5), (60, 0), (60, 1), (60, 2), (60, 3), (88, 6), (88, 7)] (by decide +kernel)
set_option maxRecDepth 100000 in
set_option maxHeartbeats 4000000 in
theorem wl_r42 : ∀ w ∈ wsL_law_r42, w ∈ lw_tbl := mem_n _ [(88, 8), (88, 9), (60, 4), (60, 5), (60, 6), (60, 7), (88, 10), (88, 11), (88, 12), (88, 13), (60, 8), (60, 9), (60, 10), (60, 11), (60, 14), (4, 2), (60, 15), (61, 3), (4, 3), (61, 4), (88, 14), (88, 15), (89, 0), (89, 1)] (by decide +kernel)
set_option maxRecDepth 100000 in
set_option maxHeartbeats 4000000 in
theorem wl_r43 : ∀ w ∈ wsL_law_r43, w ∈ lw_tbl := mem_n _ [(89, 2), (89, 3), (89, 5), (6, 6), (89, 6), (61, 5), (61, 6), (61, 7), (61, 8), (61, 9), (61, 10), (61, 13), (4, 4), (61, 14), (61, 15), (62, 0), (62, 3), (4, 5), (62, 4), (62, 5), (62, 6), (89, 7), (89, 8), (89, 9)] (by decide +kernel)
set_option maxRecDepth 100000 in
set_option maxHeartbeats 4000000 in
theorem wl_r44 : ∀ w ∈ wsL_law_r44, w ∈ lw_tbl := mem_n _ [(89, 10), (89, 11), (89, 12), (89, 13), (89, 15), (6, 7), (90, 0)] (by decide +kernel)
set_option maxRecDepth 100000 in
set_option maxHeartbeats 4000000 in
theorem wl_wsX100 : ∀ w ∈ wsX100, w ∈ lw_tbl := mem_n _ [(24, 0), (24, 2), (24, 4), (24, 6), (24, 8), (24, 10), (24, 12), (24, 14), (25, 0), (25, 2), (25, 4), (25, 6), (25, 8), (25, 10), (25, 12), (25, 14)] (by decide +kernel)
set_option maxRecDepth 100000 in
set_option maxHeartbeats 4000000 in
theorem wl_wsX110 : ∀ w ∈ wsX110, w ∈ lw_tbl := mem_n _ [(64, 5), (64, 7), (64, 9), (64, 11), (64, 13), (64, 15), (65, 1), (65, 3), (65, 5), (65, 7), (65, 9), (65, 11), (65, 13), (65, 15), (66, 1), (66, 3), (66, 5), (66, 7), (66, 9), (66, 11), (66, 13)] (by decide +kernel)
set_option maxRecDepth 100000 in
set_option maxHeartbeats 4000000 in
theorem wl_wsX90 : ∀ w ∈ wsX90, w ∈ lw_tbl := mem_n _ [(14, 4), (14, 6), (14, 8), (14, 10), (14, 12), (14, 14), (15, 0), (15, 2), (15, 4), (15, 6), (15, 8), (15, 10), (15, 12)] (by decide +kernel)
set_option maxRecDepth 100000 in
set_option maxHeartbeats 4000000 in
theorem wl_wsX70 : ∀ w ∈ wsX70, w ∈ lw_tbl := mem_n _ [(18, 9), (18, 11), (18, 13)] (by decide +kernel)
set_option maxRecDepth 100000 in
set_option maxHeartbeats 4000000 in
theorem wl_wsX40 : ∀ w ∈ wsX40, w ∈ lw_tbl := mem_n _ [(9, 11), (9, 13), (9, 15), (10, 1)] (by decide +kernel)
set_option maxRecDepth 100000 in
set_option maxHeartbeats 4000000 in
theorem wl_wsX10 : ∀ w ∈ wsX10, w ∈ lw_tbl := mem_n _ [(19, 9)] (by decide +kernel)
set_option maxRecDepth 100000 in
set_option maxHeartbeats 4000000 in
theorem wl_wsX00 : ∀ w ∈ wsX00, w ∈ lw_tbl := mem_n _ [(20, 8), (20, 10), (20, 12), (20, 14)] (by decide +kernel)
set_option maxRecDepth 100000 in
set_option maxHeartbeats 4000000 in
theorem wl_wsX50 : ∀ w ∈ wsX50, w ∈ lw_tbl := mem_n _ [(21, 13), (21, 15), (22, 1), (22, 3)] (by decide +kernel)
set_option maxRecDepth 100000 in
set_option maxHeartbeats 4000000 in
theorem wl_wsX20 : ∀ w ∈ wsX20, w ∈ lw_tbl := mem_n _ [(22, 13)] (by decide +kernel)
set_option maxRecDepth 100000 in
set_option maxHeartbeats 4000000 in
theorem wl_wsX60 : ∀ w ∈ wsX60, w ∈ lw_tbl := mem_n _ [(11, 5), (11, 7), (11, 9), (11, 11)] (by decide +kernel)
set_option maxRecDepth 100000 in
set_option maxHeartbeats 4000000 in
theorem wl_wsX80 : ∀ w ∈ wsX80, w ∈ lw_tbl := mem_n _ [(17, 7), (17, 9), (17, 11), (17, 13), (17, 15), (18, 1)] (by decide +kernel)
set_option maxRecDepth 100000 in
theorem wsL_law_in : ∀ w ∈ wsL_law, w ∈ lw_tbl := fun w h => (List.mem_append.mp h).elim (fun h => (List.mem_append.mp h).elim (fun h => (List.mem_append.mp h).elim (fun h => (List.mem_append.mp h).elim (fun h => (List.mem_append.mp h).elim (fun h => (List.mem_append.mp h).elim (fun h => (List.mem_append.mp h).elim (fun h => (List.mem_append.mp h).elim (fun h => (List.mem_append.mp h).elim (fun h => (List.mem_append.mp h).elim (fun h => (List.mem_append.mp h).elim (fun h => (List.mem_append.mp h).elim (fun h => (List.mem_append.mp h).elim (fun h => wl_r1 w h) (fun h => (List.mem_append.mp h).elim (fun h => wl_r2 w h) (fun h => (List.mem_append.mp h).elim (fun h => wl_r3 w h) (fun h => (List.mem_append.mp h).elim (fun h => wl_r4 w h) (fun h => (List.mem_append.mp h).elim (fun h => wl_r5 w h) (fun h => (List.mem_append.mp h).elim (fun h => wl_r6 w h) (fun h => (List.mem_append.mp h).elim (fun h => wl_r7 w h) (fun h => (List.mem_append.mp h).elim (fun h => wl_r8 w h) (fun h => (List.mem_append.mp h).elim (fun h => wl_r9 w h) (fun h => (List.mem_append.mp h).elim (fun h => wl_r10 w h) (fun h => (List.mem_append.mp h).elim (fun h => wl_r11 w h) (fun h => (List.mem_append.mp h).elim (fun h => wl_r12 w h) (fun h => (List.mem_append.mp h).elim (fun h => wl_r13 w h) (fun h => (List.mem_append.mp h).elim (fun h => wl_r14 w h) (fun h => (List.mem_append.mp h).elim (fun h => wl_r15 w h) (fun h => (List.mem_append.mp h).elim (fun h => wl_r16 w h) (fun h => (List.mem_append.mp h).elim (fun h => wl_r17 w h) (fun h => (List.mem_append.mp h).elim (fun h => wl_r18 w h) (fun h => (List.mem_append.mp h).elim (fun h => wl_r19 w h) (fun h => (List.mem_append.mp h).elim (fun h => wl_r20 w h) (fun h => (List.mem_append.mp h).elim (fun h => wl_r21 w h) (fun h => (List.mem_append.mp h).elim (fun h => wl_r22 w h) (fun h => (List.mem_append.mp h).elim (fun h => wl_r23 w h) (fun h => (List.mem_append.mp h).elim (fun h => wl_r24 w h) (fun h => (List.mem_append.mp h).elim (fun h => wl_r25 w h) (fun h => (List.mem_append.mp h).elim (fun h => wl_r26 w h) (fun h => (List.mem_append.mp h).elim (fun h => wl_r27 w h) (fun h => (List.mem_append.mp h).elim (fun h => wl_r28 w h) (fun h => (List.mem_append.mp h).elim (fun h => wl_r29 w h) (fun h => (List.mem_append.mp h).elim (fun h => wl_r30 w h) (fun h => (List.mem_append.mp h).elim (fun h => wl_r31 w h) (fun h => (List.mem_append.mp h).elim (fun h => wl_r32 w h) (fun h => (List.mem_append.mp h).elim (fun h => wl_r33 w h) (fun h => (List.mem_append.mp h).elim (fun h => wl_r34 w h) (fun h => (List.mem_append.mp h).elim (fun h => wl_r35 w h) (fun h => (List.mem_append.mp h).elim (fun h => wl_r36 w h) (fun h => (List.mem_append.mp h).elim (fun h => wl_r37 w h) (fun h => (List.mem_append.mp h).elim (fun h => wl_r38 w h) (fun h => (List.mem_append.mp h).elim (fun h => wl_r39 w h) (fun h => (List.mem_append.mp h).elim (fun h => wl_r40 w h) (fun h => (List.mem_append.mp h).elim (fun h => wl_r41 w h) (fun h => (List.mem_append.mp h).elim (fun h => wl_r42 w h) (fun h => (List.mem_append.mp h).elim (fun h => wl_r43 w h) (fun h => wl_r44 w h)))))))))))))))))))))))))))))))))))))))))))) (fun h => wl_wsX100 w h)) (fun h => wl_wsX110 w h)) (fun h => wl_wsX90 w h)) (fun h => wl_wsX70 w h)) (fun h => wl_wsX40 w h)) (fun h => wl_wsX10 w h)) (fun h => wl_wsX00 w h)) (fun h => wl_wsX50 w h)) (fun h => wl_wsX20 w h)) (fun h => wl_wsX60 w h)) (fun h => wl_wsX80 w h)) (fun h => absurd h List.not_mem_nil)
theorem inlX0 : ∀ w ∈ wsX00, w ∈ wsL_law := fun _ h => List.mem_append_left _ (List.mem_append_left _ (List.mem_append_left _ (List.mem_append_left _ (List.mem_append_left _ (List.mem_append_right _ h)))))
theorem inX0 : ∀ w ∈ wsX00, w ∈ lw_tbl := fun w h => wsL_law_in w (inlX0 w h)
theorem inlX1 : ∀ w ∈ wsX10, w ∈ wsL_law := fun _ h => List.mem_append_left _ (List.mem_append_left _ (List.mem_append_left _ (List.mem_append_left _ (List.mem_append_left _ (List.mem_append_left _ (List.mem_append_right _ h))))))
theorem inX1 : ∀ w ∈ wsX10, w ∈ lw_tbl := fun w h => wsL_law_in w (inlX1 w h)
theorem inlX2 : ∀ w ∈ wsX20, w ∈ wsL_law := fun _ h => List.mem_append_left _ (List.mem_append_left _ (List.mem_append_left _ (List.mem_append_right _ h)))
theorem inX2 : ∀ w ∈ wsX20, w ∈ lw_tbl := fun w h => wsL_law_in w (inlX2 w h)
theorem inX3 : ∀ w ∈ wsX30, w ∈ lw_tbl := by decide +kernel
theorem inlX4 : ∀ w ∈ wsX40, w ∈ wsL_law := fun _ h => List.mem_append_left _ (List.mem_append_left _ (List.mem_append_left _ (List.mem_append_left _ (List.mem_append_left _ (List.mem_append_left _ (List.mem_append_left _ (List.mem_append_right _ h)))))))
theorem inX4 : ∀ w ∈ wsX40, w ∈ lw_tbl := fun w h => wsL_law_in w (inlX4 w h)
theorem inlX5 : ∀ w ∈ wsX50, w ∈ wsL_law := fun _ h => List.mem_append_left _ (List.mem_append_left _ (List.mem_append_left _ (List.mem_append_left _ (List.mem_append_right _ h))))
theorem inX5 : ∀ w ∈ wsX50, w ∈ lw_tbl := fun w h => wsL_law_in w (inlX5 w h)
theorem inlX6 : ∀ w ∈ wsX60, w ∈ wsL_law := fun _ h => List.mem_append_left _ (List.mem_append_left _ (List.mem_append_right _ h))
theorem inX6 : ∀ w ∈ wsX60, w ∈ lw_tbl := fun w h => wsL_law_in w (inlX6 w h)
theorem inlX7 : ∀ w ∈ wsX70, w ∈ wsL_law := fun _ h => List.mem_append_left _ (List.mem_append_left _ (List.mem_append_left _ (List.mem_append_left _ (List.mem_append_left _ (List.mem_append_left _ (List.mem_append_left _ (List.mem_append_left _ (List.mem_append_right _ h))))))))
theorem inX7 : ∀ w ∈ wsX70, w ∈ lw_tbl := fun w h => wsL_law_in w (inlX7 w h)
theorem inlX8 : ∀ w ∈ wsX80, w ∈ wsL_law := fun _ h => List.mem_append_left _ (List.mem_append_right _ h)
theorem inX8 : ∀ w ∈ wsX80, w ∈ lw_tbl := fun w h => wsL_law_in w (inlX8 w h)
theorem inlX9 : ∀ w ∈ wsX90, w ∈ wsL_law := fun _ h => List.mem_append_left _ (List.mem_append_left _ (List.mem_append_left _ (List.mem_append_left _ (List.mem_append_left _ (List.mem_append_left _ (List.mem_append_left _ (List.mem_append_left _ (List.mem_append_left _ (List.mem_append_right _ h)))))))))
theorem inX9 : ∀ w ∈ wsX90, w ∈ lw_tbl := fun w h => wsL_law_in w (inlX9 w h)
theorem inlX10 : ∀ w ∈ wsX100, w ∈ wsL_law := fun _ h => List.mem_append_left _ (List.mem_append_left _ (List.mem_append_left _ (List.mem_append_left _ (List.mem_append_left _ (List.mem_append_left _ (List.mem_append_left _ (List.mem_append_left _ (List.mem_append_left _ (List.mem_append_left _ (List.mem_append_left _ (List.mem_append_right _ h)))))))))))
theorem inX10 : ∀ w ∈ wsX100, w ∈ lw_tbl := fun w h => wsL_law_in w (inlX10 w h)
theorem inlX11 : ∀ w ∈ wsX110, w ∈ wsL_law := fun _ h => List.mem_append_left _ (List.mem_append_left _ (List.mem_append_left _ (List.mem_append_left _ (List.mem_append_left _ (List.mem_append_left _ (List.mem_append_left _ (List.mem_append_left _ (List.mem_append_left _ (List.mem_append_left _ (List.mem_append_right _ h))))))))))
theorem inX11 : ∀ w ∈ wsX110, w ∈ lw_tbl := fun w h => wsL_law_in w (inlX11 w h)
