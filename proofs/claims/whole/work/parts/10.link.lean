/-! ===== the tables are right: words (printed by wip/whole/links.py) ===== -/
theorem pw_good : ab_good pg_Ts := by
  intro w hw
  have h := (List.mem_filter.mp hw).2
  simpa [Bool.or_eq_true] using h
theorem pw_in {w : Cond} (h : w ∈ lw_tbl) (hg : goodWord w = true) : w ∈ pg_Ts := List.mem_filter.mpr ⟨h, by rw [hg]; rfl⟩
theorem pw_inN {w : Cond} (h : w ∈ lw_tbl) (hg : ab_nst w = true) : w ∈ pg_Ts := List.mem_filter.mpr ⟨h, by rw [hg]; simp⟩
theorem pw_bat {α : Type} {tb : List Cond} {is : List Nat} {qs : List α} {f : α → Cond} (h : is.map (fun i => tb[i]?) = qs.map (fun q => some (f q))) : ∀ q ∈ qs, f q ∈ tb := by
  intro q hq
  have h1 : some (f q) ∈ is.map (fun i => tb[i]?) := by rw [h]; exact List.mem_map.mpr ⟨q, hq, rfl⟩
  obtain ⟨i, -, hi⟩ := List.mem_map.mp h1
  exact List.mem_of_getElem? hi
theorem pw_app {α : Type} {a b : List α} {p : α → Prop} (ha : ∀ q ∈ a, p q) (hb : ∀ q ∈ b, p q) : ∀ q ∈ a ++ b, p q := fun q h => (List.mem_append.mp h).elim (ha q) (hb q)
theorem pw_nil {α : Type} {p : α → Prop} : ∀ q ∈ ([] : List α), p q := fun _ h => by cases h
theorem pw_t : ∀ w ∈ tables_1, w ∈ lw_tbl := fun _ h => List.mem_append_right _ h
theorem pw_t1 : ∀ w ∈ tables_1_1, w ∈ lw_tbl := fun _ h => pw_t _ (List.mem_append_left _ h)
theorem pw_t2 : ∀ w ∈ tables_1_2, w ∈ lw_tbl := fun _ h => pw_t _ (List.mem_append_right _ (List.mem_append_left _ h))
theorem pw_t3 : ∀ w ∈ tables_1_3, w ∈ lw_tbl := fun _ h => pw_t _ (List.mem_append_right _ (List.mem_append_right _ (List.mem_append_left _ h)))
theorem pw_t4 : ∀ w ∈ tables_1_4, w ∈ lw_tbl := fun _ h => pw_t _ (List.mem_append_right _ (List.mem_append_right _ (List.mem_append_right _ (List.mem_append_left _ h))))
theorem pw_t5 : ∀ w ∈ tables_1_5, w ∈ lw_tbl := fun _ h => pw_t _ (List.mem_append_right _ (List.mem_append_right _ (List.mem_append_right _ (List.mem_append_right _ (List.mem_append_left _ h)))))
theorem pw_t6 : ∀ w ∈ tables_1_6, w ∈ lw_tbl := fun _ h => pw_t _ (List.mem_append_right _ (List.mem_append_right _ (List.mem_append_right _ (List.mem_append_right _ (List.mem_append_right _ (List.mem_append_left _ h))))))
theorem pw_t7 : ∀ w ∈ tables_1_7, w ∈ lw_tbl := fun _ h => pw_t _ (List.mem_append_right _ (List.mem_append_right _ (List.mem_append_right _ (List.mem_append_right _ (List.mem_append_right _ (List.mem_append_right _ (List.mem_append_left _ h)))))))
theorem pw_t8 : ∀ w ∈ tables_1_8, w ∈ lw_tbl := fun _ h => pw_t _ (List.mem_append_right _ (List.mem_append_right _ (List.mem_append_right _ (List.mem_append_right _ (List.mem_append_right _ (List.mem_append_right _ (List.mem_append_right _ (List.mem_append_left _ h))))))))
theorem pw_t9 : ∀ w ∈ tables_1_9, w ∈ lw_tbl := fun _ h => pw_t _ (List.mem_append_right _ (List.mem_append_right _ (List.mem_append_right _ (List.mem_append_right _ (List.mem_append_right _ (List.mem_append_right _ (List.mem_append_right _ (List.mem_append_right _ h))))))))
def pg_FL_1 : List (Nat × Nat × Nat × Nat) := [(0, 11, 0, 0), (0, 32, 8, 8), (0, 41, 8, 5), (0, 71, 4, 2), (1, 11, 1, 0), (1, 17, 1, 1), (1, 21, 1, 2), (1, 24, 1, 4), (1, 37, 4, 2), (1, 42, 8, 7), (1, 80, 1, 3), (1, 83, 8, 0), (2, 15, 4, 2), (3, 57, 4, 2), (4, 9, 4, 0), (4, 15, 4, 1), (4, 19, 4, 2), (5, 67, 8, 5), (5, 73, 4, 2), (5, 82, 8, 2), (5, 97, 8, 8), (5, 103, 8, 4), (7, 24, 4, 2), (8, 14, 8, 0), (8, 20, 8, 1), (8, 23, 8, 2), (8, 26, 8, 3), (8, 29, 8, 4), (8, 32, 8, 5), (8, 35, 8, 6), (8, 38, 8, 7), (8, 42, 8, 12), (8, 46, 8, 16), (8, 49, 8, 17), (8, 68, 8, 8), (8, 71, 8, 9), (8, 74, 8, 10), (8, 77, 8, 11), (8, 80, 8, 13), (8, 83, 8, 14), (8, 86, 8, 15), (8, 89, 4, 2), (9, 12, 9, 0), (9, 21, 9, 1), (9, 25, 9, 2), (9, 29, 9, 3), (9, 32, 9, 4), (9, 35, 9, 6), (9, 39, 9, 7), (9, 42, 9, 8), (9, 45, 9, 9), (9, 48, 8, 8), (9, 96, 9, 5), (9, 105, 8, 6), (9, 115, 8, 2), (9, 121, 4, 2), (9, 143, 8, 5), (9, 158, 8, 11), (9, 164, 8, 0), (9, 187, 8, 12), (9, 223, 8, 14), (9, 226, 8, 13), (9, 229, 8, 15), (9, 244, 8, 4), (9, 262, 8, 10), (9, 272, 8, 3), (10, 46, 4, 2), (11, 29, 9, 0), (11, 34, 9, 1), (11, 71, 8, 2), (11, 81, 8, 9), (11, 101, 8, 1), (11, 121, 8, 3), (11, 127, 8, 4), (11, 136, 8, 5), (11, 193, 8, 8), (11, 196, 8, 7), (11, 199, 4, 2), (11, 225, 8, 11), (11, 228, 8, 12), (11, 231, 8, 13), (11, 234, 8, 14), (11, 237, 8, 15), (11, 244, 8, 6), (11, 267, 9, 6), (11, 270, 9, 7), (11, 273, 9, 8), (11, 276, 9, 9), (11, 282, 8, 16), (11, 285, 8, 17), (11, 288, 8, 0), (11, 311, 8, 10)]
set_option maxRecDepth 100000 in
set_option maxHeartbeats 4000000 in
theorem pg_FL_1_e : [214, 112, 100, 52, 189, 190, 191, 193, 49, 107, 192, 83, 45, 50, 41, 42, 44, 99, 47, 88, 111, 95, 43, 81, 85, 87, 91, 94, 98, 103, 106, 122, 134, 136, 109, 114, 116, 119, 125, 128, 131, 48, 218, 220, 222, 223, 224, 226, 228, 230, 232, 110, 225, 104, 90, 51, 101, 120, 82, 123, 129, 126, 132, 97, 117, 93, 46, 219, 221, 89, 115, 86, 92, 96, 102, 113, 108, 53, 121, 124, 127, 130, 133, 105, 227, 229, 231, 233, 135, 137, 84, 118].map (fun i => tables_1_1[i]?) = pg_FL_1.map (fun q => some (Cond.fieldLink (pg_N q.1) q.2.1 (pg_T q.2.2.1 q.2.2.2).1 (pg_T q.2.2.1 q.2.2.2).2.1 (pg_T q.2.2.1 q.2.2.2).2.2.1)) := rfl
def pg_FL_2 : List (Nat × Nat × Nat × Nat) := [(2, 9, 2, 0), (2, 56, 2, 1), (3, 9, 3, 0), (3, 15, 3, 1), (3, 18, 3, 2), (3, 21, 3, 5), (3, 25, 3, 6), (3, 43, 3, 3), (3, 46, 3, 4), (5, 11, 5, 0), (5, 15, 5, 1), (5, 19, 5, 2), (5, 22, 5, 3), (5, 25, 5, 4), (5, 28, 5, 5), (5, 31, 5, 6), (5, 34, 5, 7), (5, 37, 5, 8), (5, 40, 5, 9), (5, 44, 5, 10), (5, 47, 5, 11), (6, 9, 6, 0), (6, 15, 6, 1), (6, 18, 6, 2), (11, 12, 11, 0), (11, 16, 11, 1), (11, 19, 11, 2), (11, 25, 11, 3), (11, 33, 11, 4), (11, 38, 11, 5), (11, 42, 11, 6), (11, 49, 11, 7), (11, 56, 11, 8), (11, 63, 11, 9), (11, 67, 11, 10), (11, 164, 11, 11), (11, 302, 5, 10), (11, 305, 5, 11), (11, 330, 6, 2)]
set_option maxRecDepth 100000 in
set_option maxHeartbeats 4000000 in
theorem pg_FL_2_e : [94, 95, 21, 22, 23, 26, 27, 24, 25, 49, 50, 51, 52, 53, 54, 55, 56, 57, 58, 59, 61, 107, 108, 109, 118, 119, 120, 121, 122, 123, 124, 125, 126, 127, 128, 129, 60, 62, 110].map (fun i => tables_1_2[i]?) = pg_FL_2.map (fun q => some (Cond.fieldLink (pg_N q.1) q.2.1 (pg_T q.2.2.1 q.2.2.2).1 (pg_T q.2.2.1 q.2.2.2).2.1 (pg_T q.2.2.1 q.2.2.2).2.2.1)) := rfl
def pg_FL_3 : List (Nat × Nat × Nat × Nat) := [(1, 33, 7, 0), (1, 105, 7, 2), (1, 108, 7, 1), (3, 53, 7, 0), (3, 115, 7, 2), (7, 14, 7, 0), (7, 20, 7, 1), (7, 28, 7, 2), (7, 31, 7, 3)]
set_option maxRecDepth 100000 in
set_option maxHeartbeats 4000000 in
theorem pg_FL_3_e : [66, 71, 69, 67, 72, 65, 68, 70, 73].map (fun i => tables_1_3[i]?) = pg_FL_3.map (fun q => some (Cond.fieldLink (pg_N q.1) q.2.1 (pg_T q.2.2.1 q.2.2.2).1 (pg_T q.2.2.1 q.2.2.2).2.1 (pg_T q.2.2.1 q.2.2.2).2.2.1)) := rfl
def pg_FL_4 : List (Nat × Nat × Nat × Nat) := [(0, 25, 10, 3), (0, 29, 10, 4), (0, 38, 10, 7), (0, 49, 10, 5), (0, 52, 10, 6), (0, 59, 10, 1), (0, 62, 10, 2), (0, 85, 10, 0), (9, 232, 10, 2), (9, 236, 10, 0), (9, 237, 10, 1), (9, 239, 10, 3), (9, 241, 10, 8), (9, 251, 10, 4), (9, 253, 10, 7), (9, 256, 10, 5), (9, 259, 10, 6), (10, 9, 10, 0), (10, 15, 10, 1), (10, 18, 10, 2), (10, 21, 10, 3), (10, 24, 10, 4), (10, 27, 10, 5), (10, 30, 10, 6), (10, 39, 10, 7), (10, 43, 10, 8)]
set_option maxRecDepth 100000 in
set_option maxHeartbeats 4000000 in
theorem pg_FL_4_e : [141, 144, 153, 147, 150, 135, 138, 132, 139, 133, 136, 142, 156, 145, 154, 148, 151, 131, 134, 137, 140, 143, 146, 149, 152, 155].map (fun i => tables_1_4[i]?) = pg_FL_4.map (fun q => some (Cond.fieldLink (pg_N q.1) q.2.1 (pg_T q.2.2.1 q.2.2.2).1 (pg_T q.2.2.1 q.2.2.2).2.1 (pg_T q.2.2.1 q.2.2.2).2.2.1)) := rfl
def pg_FL_6 : List (Nat × Nat × Nat × Nat) := [(12, 8, 12, 0), (12, 14, 12, 1), (12, 17, 12, 2), (12, 20, 12, 3), (12, 23, 12, 5), (12, 27, 12, 6), (12, 30, 12, 15), (12, 33, 12, 19), (12, 37, 12, 20), (12, 40, 12, 21), (12, 44, 12, 26), (12, 47, 12, 32), (12, 50, 12, 33), (12, 53, 12, 34), (12, 56, 12, 35), (12, 59, 12, 36), (12, 62, 12, 40), (12, 65, 12, 41), (12, 68, 12, 42), (12, 128, 12, 4), (12, 134, 12, 7), (12, 141, 12, 8), (12, 144, 12, 9), (12, 150, 12, 10), (12, 156, 12, 11), (12, 171, 12, 12), (12, 174, 12, 14), (12, 177, 12, 16), (12, 180, 12, 18), (12, 184, 12, 17), (12, 259, 12, 13), (12, 281, 12, 22), (12, 287, 12, 23), (12, 309, 12, 27), (12, 312, 12, 28), (12, 319, 12, 24), (12, 322, 12, 25), (12, 355, 12, 29), (12, 367, 12, 31), (12, 373, 12, 30), (12, 430, 12, 39), (12, 436, 12, 37), (12, 439, 12, 38)]
set_option maxRecDepth 100000 in
set_option maxHeartbeats 4000000 in
theorem pg_FL_6_e : [111, 112, 113, 114, 116, 117, 126, 130, 131, 132, 137, 143, 144, 145, 146, 147, 151, 152, 153, 115, 118, 119, 120, 121, 122, 123, 125, 127, 129, 128, 124, 133, 134, 138, 139, 135, 136, 140, 142, 141, 150, 148, 149].map (fun i => tables_1_6[i]?) = pg_FL_6.map (fun q => some (Cond.fieldLink (pg_N q.1) q.2.1 (pg_T q.2.2.1 q.2.2.2).1 (pg_T q.2.2.1 q.2.2.2).2.1 (pg_T q.2.2.1 q.2.2.2).2.2.1)) := rfl
def pg_FL : List (Nat × Nat × Nat × Nat) := pg_FL_1 ++ (pg_FL_2 ++ (pg_FL_3 ++ (pg_FL_4 ++ (pg_FL_6 ++ ([])))))
theorem pg_FL_in : ∀ q ∈ pg_FL, Cond.fieldLink (pg_N q.1) q.2.1 (pg_T q.2.2.1 q.2.2.2).1 (pg_T q.2.2.1 q.2.2.2).2.1 (pg_T q.2.2.1 q.2.2.2).2.2.1 ∈ pg_Ts := pw_app (fun q h => pw_in (pw_t1 _ (pw_bat pg_FL_1_e q h)) rfl) (pw_app (fun q h => pw_in (pw_t2 _ (pw_bat pg_FL_2_e q h)) rfl) (pw_app (fun q h => pw_in (pw_t3 _ (pw_bat pg_FL_3_e q h)) rfl) (pw_app (fun q h => pw_in (pw_t4 _ (pw_bat pg_FL_4_e q h)) rfl) (pw_app (fun q h => pw_in (pw_t6 _ (pw_bat pg_FL_6_e q h)) rfl) (pw_nil)))))
def pg_CL_1 : List (Nat × Nat × Nat) := [(0, 9, 10), (1, 9, 7), (8, 9, 4), (9, 9, 1), (9, 18, 0), (11, 9, 8), (11, 22, 9), (14, 7, 11)]
set_option maxRecDepth 100000 in
set_option maxHeartbeats 4000000 in
theorem pg_CL_1_e : [212, 187, 35, 181, 206, 29, 175, 21].map (fun i => tables_1_1[i]?) = pg_CL_1.map (fun q => some (Cond.classLink (pg_N q.1) q.2.1 (pg_N q.2.2))) := rfl
def pg_CL_2 : List (Nat × Nat × Nat) := [(11, 39, 3), (11, 46, 5), (11, 53, 2), (11, 60, 6)]
set_option maxRecDepth 100000 in
set_option maxHeartbeats 4000000 in
theorem pg_CL_2_e : [15, 43, 88, 101].map (fun i => tables_1_2[i]?) = pg_CL_2.map (fun q => some (Cond.classLink (pg_N q.1) q.2.1 (pg_N q.2.2))) := rfl
def pg_CL_3 : List (Nat × Nat × Nat) := [(7, 9, 4)]
set_option maxRecDepth 100000 in
set_option maxHeartbeats 4000000 in
theorem pg_CL_3_e : [63].map (fun i => tables_1_3[i]?) = pg_CL_3.map (fun q => some (Cond.classLink (pg_N q.1) q.2.1 (pg_N q.2.2))) := rfl
def pg_CL_6 : List (Nat × Nat × Nat) := [(14, 10, 12)]
set_option maxRecDepth 100000 in
set_option maxHeartbeats 4000000 in
theorem pg_CL_6_e : [100].map (fun i => tables_1_6[i]?) = pg_CL_6.map (fun q => some (Cond.classLink (pg_N q.1) q.2.1 (pg_N q.2.2))) := rfl
def pg_CL : List (Nat × Nat × Nat) := pg_CL_1 ++ (pg_CL_2 ++ (pg_CL_3 ++ (pg_CL_6 ++ ([]))))
theorem pg_CL_in : ∀ q ∈ pg_CL, Cond.classLink (pg_N q.1) q.2.1 (pg_N q.2.2) ∈ pg_Ts := pw_app (fun q h => pw_in (pw_t1 _ (pw_bat pg_CL_1_e q h)) rfl) (pw_app (fun q h => pw_in (pw_t2 _ (pw_bat pg_CL_2_e q h)) rfl) (pw_app (fun q h => pw_in (pw_t3 _ (pw_bat pg_CL_3_e q h)) rfl) (pw_app (fun q h => pw_in (pw_t6 _ (pw_bat pg_CL_6_e q h)) rfl) (pw_nil))))
def pg_KI_1 : List (Nat × Nat × Int) := [(8, 41, 100000)]
set_option maxRecDepth 100000 in
set_option maxHeartbeats 4000000 in
theorem pg_KI_1_e : [62].map (fun i => tables_1_1[i]?) = pg_KI_1.map (fun q => some (Cond.constant (pg_N q.1) q.2.1 (Int32.ofInt q.2.2))) := rfl
def pg_KI_2 : List (Nat × Nat × Int) := [(11, 89, 1073741823), (11, 100, 100000), (11, 112, 1000000)]
set_option maxRecDepth 100000 in
set_option maxHeartbeats 4000000 in
theorem pg_KI_2_e : [162, 179, 197].map (fun i => tables_1_2[i]?) = pg_KI_2.map (fun q => some (Cond.constant (pg_N q.1) q.2.1 (Int32.ofInt q.2.2))) := rfl
def pg_KI_6 : List (Nat × Nat × Int) := [(12, 7, 112300), (12, 71, 100000)]
set_option maxRecDepth 100000 in
set_option maxHeartbeats 4000000 in
theorem pg_KI_6_e : [106, 107].map (fun i => tables_1_6[i]?) = pg_KI_6.map (fun q => some (Cond.constant (pg_N q.1) q.2.1 (Int32.ofInt q.2.2))) := rfl
def pg_KI_7 : List (Nat × Nat × Int) := [(12, 84, 1073741823), (12, 95, 1000000)]
set_option maxRecDepth 100000 in
set_option maxHeartbeats 4000000 in
theorem pg_KI_7_e : [12, 40].map (fun i => tables_1_7[i]?) = pg_KI_7.map (fun q => some (Cond.constant (pg_N q.1) q.2.1 (Int32.ofInt q.2.2))) := rfl
def pg_KI_8 : List (Nat × Nat × Int) := [(12, 376, 51100), (12, 382, 41500), (12, 383, 111900), (12, 399, 60700), (12, 400, 84700), (12, 401, 108700), (12, 420, 68921)]
set_option maxRecDepth 100000 in
set_option maxHeartbeats 4000000 in
theorem pg_KI_8_e : [152, 158, 100, 141, 142, 143, 219].map (fun i => tables_1_8[i]?) = pg_KI_8.map (fun q => some (Cond.constant (pg_N q.1) q.2.1 (Int32.ofInt q.2.2))) := rfl
def pg_KI : List (Nat × Nat × Int) := pg_KI_1 ++ (pg_KI_2 ++ (pg_KI_6 ++ (pg_KI_7 ++ (pg_KI_8 ++ ([])))))
theorem pg_KI_in : ∀ q ∈ pg_KI, Cond.constant (pg_N q.1) q.2.1 (Int32.ofInt q.2.2) ∈ pg_Ts := pw_app (fun q h => pw_in (pw_t1 _ (pw_bat pg_KI_1_e q h)) rfl) (pw_app (fun q h => pw_in (pw_t2 _ (pw_bat pg_KI_2_e q h)) rfl) (pw_app (fun q h => pw_in (pw_t6 _ (pw_bat pg_KI_6_e q h)) rfl) (pw_app (fun q h => pw_in (pw_t7 _ (pw_bat pg_KI_7_e q h)) rfl) (pw_app (fun q h => pw_in (pw_t8 _ (pw_bat pg_KI_8_e q h)) rfl) (pw_nil)))))
def pg_KL_4 : List (Nat × Nat × Int) := [(1, 92, 100000), (1, 120, 1000000000), (1, 122, -1000000000)]
set_option maxRecDepth 100000 in
set_option maxHeartbeats 4000000 in
theorem pg_KL_4_e : [61, 42, 43].map (fun i => tables_1_4[i]?) = pg_KL_4.map (fun q => some (Cond.constantLong (pg_N q.1) q.2.1 (Int64.ofInt q.2.2))) := rfl
def pg_KL_5 : List (Nat × Nat × Int) := [(5, 131, 3), (9, 275, 400)]
set_option maxRecDepth 100000 in
set_option maxHeartbeats 4000000 in
theorem pg_KL_5_e : [238, 71].map (fun i => tables_1_5[i]?) = pg_KL_5.map (fun q => some (Cond.constantLong (pg_N q.1) q.2.1 (Int64.ofInt q.2.2))) := rfl
def pg_KL_8 : List (Nat × Nat × Int) := [(12, 234, 28530), (12, 250, 29807), (12, 277, 1000000000), (12, 279, -1000000000), (12, 332, 100000), (12, 380, 400)]
set_option maxRecDepth 100000 in
set_option maxHeartbeats 4000000 in
theorem pg_KL_8_e : [4, 9, 61, 62, 71, 157].map (fun i => tables_1_8[i]?) = pg_KL_8.map (fun q => some (Cond.constantLong (pg_N q.1) q.2.1 (Int64.ofInt q.2.2))) := rfl
def pg_KL : List (Nat × Nat × Int) := pg_KL_4 ++ (pg_KL_5 ++ (pg_KL_8 ++ ([])))
theorem pg_KL_in : ∀ q ∈ pg_KL, Cond.constantLong (pg_N q.1) q.2.1 (Int64.ofInt q.2.2) ∈ pg_Ts := pw_app (fun q h => pw_in (pw_t4 _ (pw_bat pg_KL_4_e q h)) rfl) (pw_app (fun q h => pw_in (pw_t5 _ (pw_bat pg_KL_5_e q h)) rfl) (pw_app (fun q h => pw_in (pw_t8 _ (pw_bat pg_KL_8_e q h)) rfl) (pw_nil)))
def pg_OB_1 : List (Nat × Nat) := [(0, 3), (1, 3), (4, 3), (8, 3), (9, 3), (11, 3)]
set_option maxRecDepth 100000 in
set_option maxHeartbeats 4000000 in
theorem pg_OB_1_e : [211, 186, 40, 34, 180, 26].map (fun i => tables_1_1[i]?) = pg_OB_1.map (fun q => some (Cond.methodLink (pg_N q.1) q.2 Lib.objectInit)) := rfl
def pg_OB_2 : List (Nat × Nat) := [(2, 3), (3, 3), (5, 3), (6, 3)]
set_option maxRecDepth 100000 in
set_option maxHeartbeats 4000000 in
theorem pg_OB_2_e : [93, 20, 48, 106].map (fun i => tables_1_2[i]?) = pg_OB_2.map (fun q => some (Cond.methodLink (pg_N q.1) q.2 Lib.objectInit)) := rfl
def pg_OB_3 : List (Nat × Nat) := [(7, 3)]
set_option maxRecDepth 100000 in
set_option maxHeartbeats 4000000 in
theorem pg_OB_3_e : [62].map (fun i => tables_1_3[i]?) = pg_OB_3.map (fun q => some (Cond.methodLink (pg_N q.1) q.2 Lib.objectInit)) := rfl
def pg_OB_4 : List (Nat × Nat) := [(10, 3)]
set_option maxRecDepth 100000 in
set_option maxHeartbeats 4000000 in
theorem pg_OB_4_e : [130].map (fun i => tables_1_4[i]?) = pg_OB_4.map (fun q => some (Cond.methodLink (pg_N q.1) q.2 Lib.objectInit)) := rfl
def pg_OB_6 : List (Nat × Nat) := [(12, 1)]
set_option maxRecDepth 100000 in
set_option maxHeartbeats 4000000 in
theorem pg_OB_6_e : [105].map (fun i => tables_1_6[i]?) = pg_OB_6.map (fun q => some (Cond.methodLink (pg_N q.1) q.2 Lib.objectInit)) := rfl
def pg_OB : List (Nat × Nat) := pg_OB_1 ++ (pg_OB_2 ++ (pg_OB_3 ++ (pg_OB_4 ++ (pg_OB_6 ++ ([])))))
theorem pg_OB_in : ∀ q ∈ pg_OB, Cond.methodLink (pg_N q.1) q.2 Lib.objectInit ∈ pg_Ts := pw_app (fun q h => pw_in (pw_t1 _ (pw_bat pg_OB_1_e q h)) rfl) (pw_app (fun q h => pw_in (pw_t2 _ (pw_bat pg_OB_2_e q h)) rfl) (pw_app (fun q h => pw_in (pw_t3 _ (pw_bat pg_OB_3_e q h)) rfl) (pw_app (fun q h => pw_in (pw_t4 _ (pw_bat pg_OB_4_e q h)) rfl) (pw_app (fun q h => pw_in (pw_t6 _ (pw_bat pg_OB_6_e q h)) rfl) (pw_nil)))))
def pg_AC_5 : List (Nat × Nat) := [(4, 41)]
set_option maxRecDepth 100000 in
set_option maxHeartbeats 4000000 in
theorem pg_AC_5_e : [133].map (fun i => tables_1_5[i]?) = pg_AC_5.map (fun q => some (Cond.methodLink (pg_N q.1) q.2 arraycopyName)) := rfl
def pg_AC_6 : List (Nat × Nat) := [(5, 142)]
set_option maxRecDepth 100000 in
set_option maxHeartbeats 4000000 in
theorem pg_AC_6_e : [12].map (fun i => tables_1_6[i]?) = pg_AC_6.map (fun q => some (Cond.methodLink (pg_N q.1) q.2 arraycopyName)) := rfl
def pg_AC : List (Nat × Nat) := pg_AC_5 ++ (pg_AC_6 ++ ([]))
theorem pg_AC_in : ∀ q ∈ pg_AC, Cond.methodLink (pg_N q.1) q.2 arraycopyName ∈ pg_Ts := pw_app (fun q h => pw_in (pw_t5 _ (pw_bat pg_AC_5_e q h)) rfl) (pw_app (fun q h => pw_in (pw_t6 _ (pw_bat pg_AC_6_e q h)) rfl) (pw_nil))
def pg_MP_1 : List (Nat × Nat × Nat) := [(4, 22, 330), (8, 11, 52), (8, 52, 54), (8, 56, 88), (8, 60, 56), (11, 11, 86), (13, 13, 327), (14, 9, 140)]
set_option maxRecDepth 100000 in
set_option maxHeartbeats 4000000 in
theorem pg_MP_1_e : [67, 37, 63, 73, 77, 31, 70, 23].map (fun i => tables_1_1[i]?) = pg_MP_1.map (fun q => some (Cond.methodLink (pg_N q.1) q.2.1 (pg_my q.2.2))) := rfl
def pg_MP_2 : List (Nat × Nat × Nat) := [(8, 92, 55), (8, 96, 102), (8, 100, 57), (8, 113, 101), (11, 75, 53), (11, 85, 141), (11, 90, 89), (11, 93, 88), (11, 97, 142), (11, 104, 56), (11, 108, 90), (11, 113, 91), (11, 117, 92), (11, 124, 93), (11, 130, 55), (11, 133, 94), (14, 13, 145), (14, 18, 146), (14, 23, 147), (14, 28, 148), (14, 33, 149), (14, 38, 150), (14, 43, 151), (14, 47, 152)]
set_option maxRecDepth 100000 in
set_option maxHeartbeats 4000000 in
theorem pg_MP_2_e : [167, 231, 239, 235, 214, 159, 163, 171, 176, 180, 189, 198, 206, 218, 226, 227, 155, 172, 181, 185, 193, 202, 210, 222].map (fun i => tables_1_2[i]?) = pg_MP_2.map (fun q => some (Cond.methodLink (pg_N q.1) q.2.1 (pg_my q.2.2))) := rfl
def pg_MP_3 : List (Nat × Nat × Nat) := [(3, 28, 81), (3, 39, 36), (3, 49, 43), (3, 62, 47), (3, 66, 46), (3, 69, 39), (3, 73, 40), (3, 76, 42), (3, 79, 38), (3, 83, 37), (3, 86, 41), (3, 101, 44), (3, 104, 82), (3, 108, 45), (3, 111, 56), (3, 117, 48), (3, 120, 50), (3, 124, 49), (3, 127, 84), (3, 131, 51), (7, 11, 52), (7, 34, 54), (7, 38, 56), (8, 103, 97), (8, 107, 98), (8, 110, 53), (11, 139, 103), (11, 143, 100), (11, 146, 154), (11, 149, 155), (11, 153, 101), (11, 157, 99), (11, 161, 98), (11, 167, 157), (11, 170, 9), (11, 176, 35), (11, 180, 33), (11, 184, 34), (11, 187, 144), (11, 190, 143), (11, 202, 95), (14, 51, 153), (14, 56, 156), (14, 61, 158), (14, 66, 159), (14, 71, 160), (14, 75, 161)]
set_option maxRecDepth 100000 in
set_option maxHeartbeats 4000000 in
theorem pg_MP_3_e : [87, 94, 165, 169, 208, 98, 107, 162, 101, 104, 110, 179, 173, 184, 183, 188, 196, 192, 204, 200, 64, 177, 178, 32, 28, 15, 7, 11, 16, 20, 37, 24, 36, 42, 54, 83, 217, 221, 229, 233, 237, 3, 38, 46, 50, 213, 225].map (fun i => tables_1_3[i]?) = pg_MP_3.map (fun q => some (Cond.methodLink (pg_N q.1) q.2.1 (pg_my q.2.2))) := rfl
def pg_MP_4 : List (Nat × Nat × Nat) := [(0, 18, 138), (1, 29, 10), (1, 47, 55), (1, 51, 83), (1, 55, 12), (1, 59, 13), (1, 63, 15), (1, 67, 16), (1, 71, 85), (1, 86, 20), (1, 97, 21), (1, 101, 22), (1, 112, 24), (1, 116, 23), (4, 32, 56), (7, 42, 55), (9, 53, 2), (9, 57, 110), (9, 61, 113), (9, 64, 115), (9, 67, 116), (9, 92, 90), (9, 99, 329), (9, 109, 59), (9, 118, 55), (9, 124, 112), (9, 128, 111), (9, 131, 19), (9, 135, 13), (9, 139, 15), (9, 146, 16), (9, 150, 118), (9, 154, 119), (9, 161, 114), (9, 167, 117), (9, 171, 56), (9, 175, 120), (9, 179, 121), (10, 33, 329), (11, 205, 162), (11, 208, 19), (11, 212, 17), (11, 215, 18), (11, 218, 14), (11, 221, 96), (11, 240, 109), (14, 79, 163), (14, 83, 164), (14, 87, 165), (14, 91, 166), (14, 95, 167), (14, 99, 168), (14, 103, 169), (14, 108, 170)]
set_option maxRecDepth 100000 in
set_option maxHeartbeats 4000000 in
theorem pg_MP_4_e : [176, 18, 17, 22, 13, 82, 86, 90, 53, 26, 30, 34, 38, 50, 193, 57, 122, 183, 194, 206, 213, 187, 188, 189, 198, 199, 202, 205, 210, 211, 212, 217, 229, 225, 221, 233, 234, 237, 180, 5, 9, 66, 70, 78, 98, 118, 1, 62, 74, 94, 102, 106, 110, 114].map (fun i => tables_1_4[i]?) = pg_MP_4.map (fun q => some (Cond.methodLink (pg_N q.1) q.2.1 (pg_my q.2.2))) := rfl
def pg_MP_5 : List (Nat × Nat × Nat) := [(0, 21, 1), (2, 21, 55), (2, 31, 29), (2, 44, 30), (2, 48, 28), (2, 52, 31), (4, 28, 55), (5, 50, 64), (5, 54, 65), (5, 58, 328), (5, 64, 329), (5, 78, 55), (5, 85, 66), (5, 89, 69), (5, 100, 90), (5, 106, 19), (5, 112, 14), (5, 115, 97), (5, 119, 68), (5, 123, 106), (5, 127, 67), (8, 64, 60), (8, 117, 104), (8, 121, 105), (9, 70, 122), (9, 73, 127), (9, 76, 128), (9, 79, 129), (9, 83, 130), (9, 86, 134), (9, 89, 135), (9, 190, 57), (9, 193, 97), (9, 197, 106), (9, 201, 123), (9, 204, 125), (9, 207, 104), (9, 211, 124), (9, 214, 105), (9, 220, 126), (9, 247, 131), (9, 263, 132), (9, 266, 133), (9, 269, 3), (9, 277, 4), (9, 280, 136), (9, 283, 103), (11, 247, 176), (11, 250, 3), (11, 255, 4), (11, 258, 87), (11, 261, 108), (11, 264, 179), (11, 279, 58), (11, 291, 27), (11, 295, 26), (11, 298, 63), (14, 112, 171), (14, 116, 172), (14, 120, 173), (14, 124, 174), (14, 128, 175), (14, 132, 177), (14, 136, 178), (14, 140, 180), (14, 144, 181), (14, 148, 182), (14, 152, 183), (14, 156, 184), (14, 160, 185)]
set_option maxRecDepth 100000 in
set_option maxHeartbeats 4000000 in
theorem pg_MP_5_e : [67, 169, 173, 184, 176, 188, 148, 208, 217, 213, 222, 216, 223, 239, 212, 221, 227, 228, 229, 233, 234, 128, 6, 10, 16, 39, 43, 47, 51, 75, 78, 15, 1, 2, 20, 31, 24, 25, 30, 35, 55, 59, 72, 63, 82, 86, 89, 114, 118, 119, 124, 136, 140, 144, 165, 192, 204, 90, 94, 98, 102, 106, 110, 120, 149, 153, 157, 161, 196, 200].map (fun i => tables_1_5[i]?) = pg_MP_5.map (fun q => some (Cond.methodLink (pg_N q.1) q.2.1 (pg_my q.2.2))) := rfl
def pg_MP_6 : List (Nat × Nat × Nat) := [(0, 45, 6), (0, 55, 139), (0, 65, 329), (0, 76, 55), (0, 80, 74), (5, 93, 71), (5, 138, 70), (5, 148, 72), (6, 22, 7), (6, 28, 74), (10, 51, 55), (11, 308, 62), (11, 314, 5), (11, 318, 76), (11, 322, 75), (11, 326, 77), (11, 327, 78), (11, 333, 79), (11, 337, 11), (12, 72, 195), (14, 12, 194), (14, 164, 186), (14, 168, 187), (14, 173, 188), (14, 177, 189), (14, 181, 190), (14, 185, 191), (14, 189, 192), (14, 193, 193)]
set_option maxRecDepth 100000 in
set_option maxHeartbeats 4000000 in
theorem pg_MP_6_e : [29, 32, 49, 50, 51, 4, 8, 13, 45, 66, 36, 17, 25, 41, 58, 62, 71, 79, 96, 108, 102, 21, 37, 54, 67, 75, 84, 88, 92].map (fun i => tables_1_6[i]?) = pg_MP_6.map (fun q => some (Cond.methodLink (pg_N q.1) q.2.1 (pg_my q.2.2))) := rfl
def pg_MP_7 : List (Nat × Nat × Nat) := [(12, 76, 196), (12, 80, 204), (12, 85, 197), (12, 89, 205), (12, 92, 209), (12, 96, 202), (12, 99, 200), (12, 102, 199), (12, 105, 216), (12, 109, 203), (12, 112, 217), (12, 115, 201), (12, 118, 198), (12, 121, 215), (12, 124, 220), (12, 131, 225), (12, 137, 228), (12, 147, 230), (12, 153, 229), (12, 160, 232), (12, 164, 235), (12, 168, 231), (12, 187, 238), (12, 191, 233), (12, 195, 234), (12, 199, 240), (12, 202, 242), (12, 206, 239), (12, 209, 244), (12, 213, 241), (12, 216, 245), (12, 219, 246), (12, 222, 243), (12, 225, 247), (12, 231, 249), (12, 236, 251), (12, 240, 252), (12, 243, 253), (12, 246, 237), (12, 256, 255), (12, 262, 254), (12, 265, 250), (12, 271, 257), (12, 274, 258), (14, 17, 206), (14, 22, 207), (14, 27, 208), (14, 32, 210), (14, 37, 211), (14, 42, 212), (14, 46, 213), (14, 50, 214), (14, 55, 218), (14, 60, 226), (14, 65, 227), (14, 70, 259), (14, 78, 219), (14, 94, 221), (14, 98, 222), (14, 102, 223), (14, 107, 224)]
set_option maxRecDepth 100000 in
set_option maxHeartbeats 4000000 in
theorem pg_MP_7_e : [9, 6, 13, 21, 32, 53, 57, 69, 77, 65, 73, 81, 85, 89, 97, 121, 141, 145, 148, 162, 212, 137, 192, 159, 165, 200, 208, 196, 180, 188, 176, 184, 204, 172, 236, 224, 228, 168, 216, 155, 220, 232, 151, 133, 2, 17, 24, 28, 36, 41, 45, 49, 61, 117, 125, 129, 93, 101, 105, 109, 113].map (fun i => tables_1_7[i]?) = pg_MP_7.map (fun q => some (Cond.methodLink (pg_N q.1) q.2.1 (pg_my q.2.2))) := rfl
def pg_MP_8 : List (Nat × Nat × Nat) := [(12, 228, 248), (12, 252, 236), (12, 268, 256), (12, 284, 261), (12, 290, 262), (12, 293, 263), (12, 296, 266), (12, 299, 265), (12, 302, 267), (12, 306, 264), (12, 315, 268), (12, 325, 269), (12, 329, 270), (12, 334, 272), (12, 337, 271), (12, 340, 275), (12, 343, 276), (12, 346, 279), (12, 349, 280), (12, 352, 278), (12, 358, 281), (12, 361, 283), (12, 364, 285), (12, 370, 288), (12, 377, 289), (12, 384, 291), (12, 387, 282), (12, 390, 284), (12, 393, 286), (12, 396, 287), (12, 402, 290), (12, 405, 292), (12, 408, 293), (12, 411, 296), (12, 414, 302), (12, 417, 303), (12, 421, 308), (12, 424, 309), (12, 427, 312), (12, 442, 314), (14, 74, 260), (14, 82, 273), (14, 86, 274), (14, 90, 277), (14, 111, 294), (14, 115, 295), (14, 119, 297), (14, 123, 298), (14, 127, 299), (14, 131, 300), (14, 135, 301), (14, 139, 304), (14, 143, 305), (14, 147, 306), (14, 151, 307), (14, 155, 310), (14, 159, 311), (14, 163, 315)]
set_option maxRecDepth 100000 in
set_option maxHeartbeats 4000000 in
theorem pg_MP_8_e : [0, 10, 5, 57, 53, 63, 37, 41, 33, 49, 29, 45, 67, 22, 25, 84, 80, 105, 113, 117, 109, 125, 133, 148, 153, 96, 101, 121, 129, 137, 144, 159, 92, 171, 195, 199, 220, 224, 239, 235, 14, 18, 72, 76, 88, 163, 167, 175, 179, 183, 187, 191, 203, 207, 211, 215, 227, 231].map (fun i => tables_1_8[i]?) = pg_MP_8.map (fun q => some (Cond.methodLink (pg_N q.1) q.2.1 (pg_my q.2.2))) := rfl
def pg_MP_9 : List (Nat × Nat × Nat) := [(12, 433, 313), (12, 445, 316), (12, 448, 318), (12, 451, 320), (14, 167, 317), (14, 172, 319), (14, 176, 321), (14, 180, 322), (14, 184, 323), (14, 188, 324), (14, 192, 325), (14, 196, 326)]
set_option maxRecDepth 100000 in
set_option maxHeartbeats 4000000 in
theorem pg_MP_9_e : [3, 11, 19, 27, 7, 15, 23, 30, 34, 38, 42, 46].map (fun i => tables_1_9[i]?) = pg_MP_9.map (fun q => some (Cond.methodLink (pg_N q.1) q.2.1 (pg_my q.2.2))) := rfl
def pg_MP : List (Nat × Nat × Nat) := pg_MP_1 ++ (pg_MP_2 ++ (pg_MP_3 ++ (pg_MP_4 ++ (pg_MP_5 ++ (pg_MP_6 ++ (pg_MP_7 ++ (pg_MP_8 ++ (pg_MP_9 ++ ([])))))))))
theorem pg_MP_in : ∀ q ∈ pg_MP, Cond.methodLink (pg_N q.1) q.2.1 (pg_my q.2.2) ∈ pg_Ts := pw_app (fun q h => pw_in (pw_t1 _ (pw_bat pg_MP_1_e q h)) rfl) (pw_app (fun q h => pw_in (pw_t2 _ (pw_bat pg_MP_2_e q h)) rfl) (pw_app (fun q h => pw_in (pw_t3 _ (pw_bat pg_MP_3_e q h)) rfl) (pw_app (fun q h => pw_in (pw_t4 _ (pw_bat pg_MP_4_e q h)) rfl) (pw_app (fun q h => pw_in (pw_t5 _ (pw_bat pg_MP_5_e q h)) rfl) (pw_app (fun q h => pw_in (pw_t6 _ (pw_bat pg_MP_6_e q h)) rfl) (pw_app (fun q h => pw_in (pw_t7 _ (pw_bat pg_MP_7_e q h)) rfl) (pw_app (fun q h => pw_in (pw_t8 _ (pw_bat pg_MP_8_e q h)) rfl) (pw_app (fun q h => pw_in (pw_t9 _ (pw_bat pg_MP_9_e q h)) rfl) (pw_nil)))))))))
def pg_MN_1 : List (Nat × Nat × Nat) := [(9, 11, 8), (9, 20, 0), (11, 24, 107)]
set_option maxRecDepth 100000 in
set_option maxHeartbeats 4000000 in
theorem pg_MN_1_e : [183, 208, 177].map (fun i => tables_1_1[i]?) = pg_MN_1.map (fun q => some (Cond.methodLinkNest (pg_N q.1) q.2.1 (pg_my q.2.2) "MillTown")) := rfl
def pg_MN_2 : List (Nat × Nat × Nat) := [(11, 41, 32), (11, 48, 61), (11, 55, 25), (11, 62, 73)]
set_option maxRecDepth 100000 in
set_option maxHeartbeats 4000000 in
theorem pg_MN_2_e : [17, 45, 90, 103].map (fun i => tables_1_2[i]?) = pg_MN_2.map (fun q => some (Cond.methodLinkNest (pg_N q.1) q.2.1 (pg_my q.2.2) "MillTown")) := rfl
def pg_MN_3 : List (Nat × Nat × Nat) := [(1, 28, 80)]
set_option maxRecDepth 100000 in
set_option maxHeartbeats 4000000 in
theorem pg_MN_3_e : [59].map (fun i => tables_1_3[i]?) = pg_MN_3.map (fun q => some (Cond.methodLinkNest (pg_N q.1) q.2.1 (pg_my q.2.2) "MillTown")) := rfl
def pg_MN_4 : List (Nat × Nat × Nat) := [(0, 17, 137)]
set_option maxRecDepth 100000 in
set_option maxHeartbeats 4000000 in
theorem pg_MN_4_e : [127].map (fun i => tables_1_4[i]?) = pg_MN_4.map (fun q => some (Cond.methodLinkNest (pg_N q.1) q.2.1 (pg_my q.2.2) "MillTown")) := rfl
def pg_MN : List (Nat × Nat × Nat) := pg_MN_1 ++ (pg_MN_2 ++ (pg_MN_3 ++ (pg_MN_4 ++ ([]))))
theorem pg_MN_in : ∀ q ∈ pg_MN, Cond.methodLinkNest (pg_N q.1) q.2.1 (pg_my q.2.2) "MillTown" ∈ pg_Ts := pw_app (fun q h => pw_inN (pw_t1 _ (pw_bat pg_MN_1_e q h)) rfl) (pw_app (fun q h => pw_inN (pw_t2 _ (pw_bat pg_MN_2_e q h)) rfl) (pw_app (fun q h => pw_inN (pw_t3 _ (pw_bat pg_MN_3_e q h)) rfl) (pw_app (fun q h => pw_inN (pw_t4 _ (pw_bat pg_MN_4_e q h)) rfl) (pw_nil))))
def pg_ML : List (Nat × Nat × Nat) := pg_MP ++ pg_MN
theorem pg_ML_in : ∀ q ∈ pg_ML, ab_lk pg_Ts (pg_N q.1) q.2.1 (pg_my q.2.2) := pw_app (fun q h => Or.inl (pg_MP_in q h)) (fun q h => Or.inr ⟨_, pg_MN_in q h⟩)
def pg_VC_1 : List (Nat) := [0, 8, 52, 54, 56, 86, 88, 107, 140, 327, 330]
set_option maxRecDepth 100000 in
set_option maxHeartbeats 4000000 in
theorem pg_VC_1_e : [210, 185, 39, 66, 80, 33, 76, 179, 25, 72, 69].map (fun i => tables_1_1[i]?) = pg_VC_1.map (fun q => some (Cond.code (pg_my q) (pg_mb q) (pg_mx q) (pg_mr q))) := rfl
def pg_VC_2 : List (Nat) := [25, 32, 53, 55, 61, 73, 89, 90, 91, 92, 93, 94, 101, 102, 141, 142, 145, 146, 147, 148, 149, 150, 151, 152]
set_option maxRecDepth 100000 in
set_option maxHeartbeats 4000000 in
theorem pg_VC_2_e : [92, 19, 217, 170, 47, 105, 166, 192, 201, 209, 221, 230, 238, 234, 161, 178, 158, 175, 184, 188, 196, 205, 213, 225].map (fun i => tables_1_2[i]?) = pg_VC_2.map (fun q => some (Cond.code (pg_my q) (pg_mb q) (pg_mx q) (pg_mr q))) := rfl
def pg_VC_3 : List (Nat) := [9, 33, 34, 35, 36, 37, 38, 39, 40, 41, 42, 43, 44, 45, 46, 47, 48, 49, 50, 51, 57, 80, 81, 82, 84, 97, 98, 99, 100, 103, 143, 144, 153, 154, 155, 156, 157, 158, 159, 160, 161]
set_option maxRecDepth 100000 in
set_option maxHeartbeats 4000000 in
theorem pg_VC_3_e : [57, 220, 224, 86, 97, 106, 103, 100, 109, 112, 164, 168, 182, 187, 211, 172, 191, 195, 199, 203, 2, 61, 90, 176, 207, 35, 31, 27, 14, 10, 236, 232, 6, 19, 23, 41, 45, 49, 53, 216, 228].map (fun i => tables_1_3[i]?) = pg_VC_3.map (fun q => some (Cond.code (pg_my q) (pg_mb q) (pg_mx q) (pg_mr q))) := rfl
def pg_VC_4 : List (Nat) := [2, 10, 12, 13, 14, 15, 16, 17, 18, 19, 20, 21, 22, 23, 24, 59, 83, 85, 95, 96, 109, 110, 111, 112, 113, 114, 115, 116, 117, 118, 119, 120, 137, 138, 162, 163, 164, 165, 166, 167, 168, 169, 170, 329]
set_option maxRecDepth 100000 in
set_option maxHeartbeats 4000000 in
theorem pg_VC_4_e : [125, 21, 16, 85, 81, 89, 92, 69, 73, 12, 29, 33, 37, 52, 41, 192, 25, 56, 0, 101, 121, 186, 204, 201, 197, 228, 209, 216, 224, 220, 232, 236, 129, 179, 8, 4, 65, 77, 97, 105, 109, 113, 117, 182].map (fun i => tables_1_4[i]?) = pg_VC_4.map (fun q => some (Cond.code (pg_my q) (pg_mb q) (pg_mx q) (pg_mr q))) := rfl
def pg_VC_5 : List (Nat) := [1, 3, 4, 26, 27, 28, 29, 30, 31, 58, 60, 63, 64, 65, 66, 67, 68, 87, 104, 105, 106, 108, 121, 122, 123, 124, 125, 126, 127, 128, 129, 130, 131, 132, 133, 134, 135, 136, 171, 172, 173, 174, 175, 176, 177, 178, 179, 180, 181, 182, 183, 184, 185, 328]
set_option maxRecDepth 100000 in
set_option maxHeartbeats 4000000 in
theorem pg_VC_5_e : [70, 66, 85, 195, 168, 178, 175, 187, 191, 147, 131, 207, 211, 220, 226, 237, 232, 127, 9, 13, 5, 139, 0, 19, 23, 28, 34, 38, 42, 46, 50, 54, 58, 62, 74, 77, 81, 88, 93, 97, 101, 105, 109, 117, 113, 123, 143, 152, 156, 160, 164, 199, 203, 215].map (fun i => tables_1_5[i]?) = pg_VC_5.map (fun q => some (Cond.code (pg_my q) (pg_mb q) (pg_mx q) (pg_mr q))) := rfl
def pg_VC_6 : List (Nat) := [5, 6, 7, 11, 62, 69, 70, 71, 72, 74, 75, 76, 77, 78, 79, 139, 186, 187, 188, 189, 190, 191, 192, 193, 194, 195]
set_option maxRecDepth 100000 in
set_option maxHeartbeats 4000000 in
theorem pg_VC_6_e : [28, 31, 48, 99, 20, 2, 11, 7, 16, 53, 61, 44, 65, 74, 82, 35, 24, 40, 57, 70, 78, 87, 91, 95, 104, 110].map (fun i => tables_1_6[i]?) = pg_VC_6.map (fun q => some (Cond.code (pg_my q) (pg_mb q) (pg_mx q) (pg_mr q))) := rfl
def pg_VC_7 : List (Nat) := [196, 197, 198, 199, 200, 201, 202, 203, 204, 205, 206, 207, 208, 209, 210, 211, 212, 213, 214, 215, 216, 217, 218, 219, 220, 221, 222, 223, 224, 225, 226, 227, 228, 229, 230, 231, 232, 233, 234, 235, 237, 238, 239, 240, 241, 242, 243, 244, 245, 246, 247, 249, 250, 251, 252, 253, 254, 255, 257, 258, 259]
set_option maxRecDepth 100000 in
set_option maxHeartbeats 4000000 in
theorem pg_VC_7_e : [11, 16, 88, 72, 60, 84, 56, 68, 8, 23, 5, 20, 27, 35, 31, 39, 44, 48, 52, 92, 80, 76, 64, 96, 100, 104, 108, 112, 116, 124, 120, 128, 144, 150, 147, 140, 164, 161, 167, 215, 219, 195, 199, 203, 191, 211, 207, 183, 179, 187, 175, 239, 235, 227, 231, 171, 223, 158, 154, 136, 132].map (fun i => tables_1_7[i]?) = pg_VC_7.map (fun q => some (Cond.code (pg_my q) (pg_mb q) (pg_mx q) (pg_mr q))) := rfl
def pg_VC_8 : List (Nat) := [236, 248, 256, 260, 261, 262, 263, 264, 265, 266, 267, 268, 269, 270, 271, 272, 273, 274, 275, 276, 277, 278, 279, 280, 281, 282, 283, 284, 285, 286, 287, 288, 289, 290, 291, 292, 293, 294, 295, 296, 297, 298, 299, 300, 301, 302, 303, 304, 305, 306, 307, 308, 309, 310, 311, 314, 315]
set_option maxRecDepth 100000 in
set_option maxHeartbeats 4000000 in
theorem pg_VC_8_e : [13, 3, 8, 17, 60, 56, 66, 52, 44, 40, 36, 32, 48, 70, 28, 24, 21, 75, 87, 83, 79, 120, 108, 116, 112, 104, 128, 124, 136, 132, 140, 151, 156, 147, 99, 162, 95, 91, 166, 174, 170, 178, 182, 186, 190, 198, 202, 194, 206, 210, 214, 223, 226, 218, 230, 238, 234].map (fun i => tables_1_8[i]?) = pg_VC_8.map (fun q => some (Cond.code (pg_my q) (pg_mb q) (pg_mx q) (pg_mr q))) := rfl
def pg_VC_9 : List (Nat) := [312, 313, 316, 317, 318, 319, 320, 321, 322, 323, 324, 325, 326]
set_option maxRecDepth 100000 in
set_option maxHeartbeats 4000000 in
theorem pg_VC_9_e : [2, 6, 14, 10, 22, 18, 29, 26, 33, 37, 41, 45, 49].map (fun i => tables_1_9[i]?) = pg_VC_9.map (fun q => some (Cond.code (pg_my q) (pg_mb q) (pg_mx q) (pg_mr q))) := rfl
def pg_VC : List (Nat) := pg_VC_1 ++ (pg_VC_2 ++ (pg_VC_3 ++ (pg_VC_4 ++ (pg_VC_5 ++ (pg_VC_6 ++ (pg_VC_7 ++ (pg_VC_8 ++ (pg_VC_9 ++ ([])))))))))
theorem pg_VC_in : ∀ q ∈ pg_VC, Cond.code (pg_my q) (pg_mb q) (pg_mx q) (pg_mr q) ∈ pg_Ts := pw_app (fun q h => pw_in (pw_t1 _ (pw_bat pg_VC_1_e q h)) rfl) (pw_app (fun q h => pw_in (pw_t2 _ (pw_bat pg_VC_2_e q h)) rfl) (pw_app (fun q h => pw_in (pw_t3 _ (pw_bat pg_VC_3_e q h)) rfl) (pw_app (fun q h => pw_in (pw_t4 _ (pw_bat pg_VC_4_e q h)) rfl) (pw_app (fun q h => pw_in (pw_t5 _ (pw_bat pg_VC_5_e q h)) rfl) (pw_app (fun q h => pw_in (pw_t6 _ (pw_bat pg_VC_6_e q h)) rfl) (pw_app (fun q h => pw_in (pw_t7 _ (pw_bat pg_VC_7_e q h)) rfl) (pw_app (fun q h => pw_in (pw_t8 _ (pw_bat pg_VC_8_e q h)) rfl) (pw_app (fun q h => pw_in (pw_t9 _ (pw_bat pg_VC_9_e q h)) rfl) (pw_nil)))))))))
def pg_VI_1 : List (Nat) := [54, 56, 88, 0, 8, 52, 86, 107, 140]
set_option maxRecDepth 100000 in
set_option maxHeartbeats 4000000 in
theorem pg_VI_1_e : [64, 78, 74, 209, 184, 38, 32, 178, 24].map (fun i => tables_1_1[i]?) = pg_VI_1.map (fun q => some (Cond.instanceMethod (pg_my q))) := rfl
def pg_VI_2 : List (Nat) := [53, 55, 89, 90, 91, 92, 93, 94, 101, 102, 145, 146, 147, 148, 149, 150, 151, 152, 25, 32, 61, 73]
set_option maxRecDepth 100000 in
set_option maxHeartbeats 4000000 in
theorem pg_VI_2_e : [215, 168, 164, 190, 199, 207, 219, 228, 236, 233, 156, 173, 182, 186, 194, 203, 211, 223, 91, 18, 46, 104].map (fun i => tables_1_2[i]?) = pg_VI_2.map (fun q => some (Cond.instanceMethod (pg_my q))) := rfl
def pg_VI_3 : List (Nat) := [9, 33, 34, 35, 36, 43, 44, 45, 46, 47, 48, 49, 50, 51, 57, 81, 82, 84, 95, 97, 98, 99, 100, 103, 143, 144, 153, 154, 155, 156, 157, 158, 159, 160, 161, 80]
set_option maxRecDepth 100000 in
set_option maxHeartbeats 4000000 in
theorem pg_VI_3_e : [55, 218, 222, 84, 96, 167, 181, 186, 210, 171, 190, 194, 198, 202, 0, 88, 174, 205, 238, 33, 29, 25, 12, 8, 235, 231, 4, 18, 22, 39, 44, 47, 51, 214, 226, 60].map (fun i => tables_1_3[i]?) = pg_VI_3.map (fun q => some (Cond.instanceMethod (pg_my q))) := rfl
def pg_VI_4 : List (Nat) := [2, 10, 12, 13, 14, 15, 17, 18, 19, 20, 21, 22, 24, 59, 83, 85, 96, 109, 110, 113, 114, 115, 116, 117, 118, 119, 121, 138, 162, 163, 164, 165, 166, 167, 168, 169, 170, 137]
set_option maxRecDepth 100000 in
set_option maxHeartbeats 4000000 in
theorem pg_VI_4_e : [123, 20, 15, 83, 79, 87, 67, 71, 10, 28, 32, 36, 40, 190, 23, 54, 99, 119, 185, 196, 227, 208, 215, 223, 219, 231, 239, 177, 7, 2, 63, 75, 95, 103, 107, 111, 115, 128].map (fun i => tables_1_4[i]?) = pg_VI_4.map (fun q => some (Cond.instanceMethod (pg_my q))) := rfl
def pg_VI_5 : List (Nat) := [1, 3, 4, 26, 27, 30, 31, 58, 60, 63, 64, 65, 66, 67, 68, 87, 104, 105, 106, 108, 122, 123, 124, 125, 126, 127, 128, 129, 130, 131, 132, 135, 171, 172, 173, 174, 175, 176, 177, 178, 179, 180, 181, 182, 183, 184, 185]
set_option maxRecDepth 100000 in
set_option maxHeartbeats 4000000 in
theorem pg_VI_5_e : [68, 64, 83, 193, 166, 186, 190, 145, 129, 205, 210, 219, 225, 236, 231, 125, 7, 11, 3, 137, 18, 22, 27, 33, 37, 41, 45, 49, 53, 57, 61, 80, 91, 95, 99, 103, 107, 116, 111, 121, 142, 150, 154, 158, 162, 197, 201].map (fun i => tables_1_5[i]?) = pg_VI_5.map (fun q => some (Cond.instanceMethod (pg_my q))) := rfl
def pg_VI_6 : List (Nat) := [5, 7, 11, 62, 69, 70, 71, 72, 75, 76, 77, 78, 79, 139, 186, 187, 188, 189, 190, 191, 192, 193, 194]
set_option maxRecDepth 100000 in
set_option maxHeartbeats 4000000 in
theorem pg_VI_6_e : [26, 46, 97, 18, 1, 10, 6, 15, 59, 42, 63, 72, 80, 33, 22, 38, 55, 68, 76, 85, 89, 93, 103].map (fun i => tables_1_6[i]?) = pg_VI_6.map (fun q => some (Cond.instanceMethod (pg_my q))) := rfl
def pg_VI_7 : List (Nat) := [197, 198, 199, 200, 201, 202, 203, 206, 207, 208, 209, 210, 211, 212, 213, 214, 215, 216, 217, 218, 219, 220, 221, 222, 223, 224, 225, 226, 227, 228, 231, 235, 237, 238, 239, 240, 241, 242, 243, 244, 245, 246, 247, 249, 250, 251, 252, 253, 254, 255, 257, 258, 259]
set_option maxRecDepth 100000 in
set_option maxHeartbeats 4000000 in
theorem pg_VI_7_e : [15, 87, 71, 59, 83, 55, 67, 3, 18, 25, 34, 29, 37, 42, 46, 50, 91, 79, 75, 62, 94, 99, 102, 106, 110, 114, 123, 118, 126, 143, 139, 214, 218, 194, 198, 202, 190, 210, 206, 182, 178, 186, 174, 238, 234, 226, 230, 170, 222, 157, 153, 135, 130].map (fun i => tables_1_7[i]?) = pg_VI_7.map (fun q => some (Cond.instanceMethod (pg_my q))) := rfl
def pg_VI_8 : List (Nat) := [236, 248, 256, 260, 261, 262, 263, 264, 265, 266, 267, 268, 269, 270, 271, 273, 274, 275, 276, 277, 278, 279, 280, 281, 282, 283, 284, 285, 286, 287, 288, 289, 290, 291, 292, 293, 294, 295, 296, 297, 298, 299, 300, 301, 302, 303, 304, 305, 306, 307, 308, 310, 311, 314, 315]
set_option maxRecDepth 100000 in
set_option maxHeartbeats 4000000 in
theorem pg_VI_8_e : [12, 2, 7, 15, 59, 55, 65, 51, 43, 39, 35, 31, 47, 69, 27, 19, 73, 86, 82, 77, 119, 107, 115, 111, 103, 127, 123, 135, 131, 139, 150, 155, 146, 98, 161, 94, 89, 164, 173, 168, 176, 180, 184, 188, 197, 201, 192, 204, 208, 212, 222, 216, 228, 237, 232].map (fun i => tables_1_8[i]?) = pg_VI_8.map (fun q => some (Cond.instanceMethod (pg_my q))) := rfl
def pg_VI_9 : List (Nat) := [312, 313, 316, 317, 318, 319, 321, 322, 323, 324, 325, 326]
set_option maxRecDepth 100000 in
set_option maxHeartbeats 4000000 in
theorem pg_VI_9_e : [1, 5, 13, 8, 21, 16, 24, 31, 35, 39, 43, 47].map (fun i => tables_1_9[i]?) = pg_VI_9.map (fun q => some (Cond.instanceMethod (pg_my q))) := rfl
def pg_VI : List (Nat) := pg_VI_1 ++ (pg_VI_2 ++ (pg_VI_3 ++ (pg_VI_4 ++ (pg_VI_5 ++ (pg_VI_6 ++ (pg_VI_7 ++ (pg_VI_8 ++ (pg_VI_9 ++ ([])))))))))
theorem pg_VI_in : ∀ q ∈ pg_VI, Cond.instanceMethod (pg_my q) ∈ pg_Ts := pw_app (fun q h => pw_in (pw_t1 _ (pw_bat pg_VI_1_e q h)) rfl) (pw_app (fun q h => pw_in (pw_t2 _ (pw_bat pg_VI_2_e q h)) rfl) (pw_app (fun q h => pw_in (pw_t3 _ (pw_bat pg_VI_3_e q h)) rfl) (pw_app (fun q h => pw_in (pw_t4 _ (pw_bat pg_VI_4_e q h)) rfl) (pw_app (fun q h => pw_in (pw_t5 _ (pw_bat pg_VI_5_e q h)) rfl) (pw_app (fun q h => pw_in (pw_t6 _ (pw_bat pg_VI_6_e q h)) rfl) (pw_app (fun q h => pw_in (pw_t7 _ (pw_bat pg_VI_7_e q h)) rfl) (pw_app (fun q h => pw_in (pw_t8 _ (pw_bat pg_VI_8_e q h)) rfl) (pw_app (fun q h => pw_in (pw_t9 _ (pw_bat pg_VI_9_e q h)) rfl) (pw_nil)))))))))
def pg_VS_1 : List (Nat) := [327, 330]
set_option maxRecDepth 100000 in
set_option maxHeartbeats 4000000 in
theorem pg_VS_1_e : [71, 68].map (fun i => tables_1_1[i]?) = pg_VS_1.map (fun q => some (Cond.static (pg_my q))) := rfl
def pg_VS_2 : List (Nat) := [141, 142]
set_option maxRecDepth 100000 in
set_option maxHeartbeats 4000000 in
theorem pg_VS_2_e : [160, 177].map (fun i => tables_1_2[i]?) = pg_VS_2.map (fun q => some (Cond.static (pg_my q))) := rfl
def pg_VS_3 : List (Nat) := [37, 38, 39, 40, 41, 42]
set_option maxRecDepth 100000 in
set_option maxHeartbeats 4000000 in
theorem pg_VS_3_e : [105, 102, 99, 108, 111, 163].map (fun i => tables_1_3[i]?) = pg_VS_3.map (fun q => some (Cond.static (pg_my q))) := rfl
def pg_VS_4 : List (Nat) := [16, 23, 111, 112, 120, 329]
set_option maxRecDepth 100000 in
set_option maxHeartbeats 4000000 in
theorem pg_VS_4_e : [91, 51, 203, 200, 235, 181].map (fun i => tables_1_4[i]?) = pg_VS_4.map (fun q => some (Cond.static (pg_my q))) := rfl
def pg_VS_5 : List (Nat) := [28, 29, 133, 134, 136, 328]
set_option maxRecDepth 100000 in
set_option maxHeartbeats 4000000 in
theorem pg_VS_5_e : [177, 174, 73, 76, 87, 214].map (fun i => tables_1_5[i]?) = pg_VS_5.map (fun q => some (Cond.static (pg_my q))) := rfl
def pg_VS_6 : List (Nat) := [6, 74, 195]
set_option maxRecDepth 100000 in
set_option maxHeartbeats 4000000 in
theorem pg_VS_6_e : [30, 52, 109].map (fun i => tables_1_6[i]?) = pg_VS_6.map (fun q => some (Cond.static (pg_my q))) := rfl
def pg_VS_7 : List (Nat) := [196, 204, 205, 229, 230, 232, 233, 234]
set_option maxRecDepth 100000 in
set_option maxHeartbeats 4000000 in
theorem pg_VS_7_e : [10, 7, 22, 149, 146, 163, 160, 166].map (fun i => tables_1_7[i]?) = pg_VS_7.map (fun q => some (Cond.static (pg_my q))) := rfl
def pg_VS_8 : List (Nat) := [272, 309]
set_option maxRecDepth 100000 in
set_option maxHeartbeats 4000000 in
theorem pg_VS_8_e : [23, 225].map (fun i => tables_1_8[i]?) = pg_VS_8.map (fun q => some (Cond.static (pg_my q))) := rfl
def pg_VS_9 : List (Nat) := [320]
set_option maxRecDepth 100000 in
set_option maxHeartbeats 4000000 in
theorem pg_VS_9_e : [28].map (fun i => tables_1_9[i]?) = pg_VS_9.map (fun q => some (Cond.static (pg_my q))) := rfl
def pg_VS : List (Nat) := pg_VS_1 ++ (pg_VS_2 ++ (pg_VS_3 ++ (pg_VS_4 ++ (pg_VS_5 ++ (pg_VS_6 ++ (pg_VS_7 ++ (pg_VS_8 ++ (pg_VS_9 ++ ([])))))))))
theorem pg_VS_in : ∀ q ∈ pg_VS, Cond.static (pg_my q) ∈ pg_Ts := pw_app (fun q h => pw_in (pw_t1 _ (pw_bat pg_VS_1_e q h)) rfl) (pw_app (fun q h => pw_in (pw_t2 _ (pw_bat pg_VS_2_e q h)) rfl) (pw_app (fun q h => pw_in (pw_t3 _ (pw_bat pg_VS_3_e q h)) rfl) (pw_app (fun q h => pw_in (pw_t4 _ (pw_bat pg_VS_4_e q h)) rfl) (pw_app (fun q h => pw_in (pw_t5 _ (pw_bat pg_VS_5_e q h)) rfl) (pw_app (fun q h => pw_in (pw_t6 _ (pw_bat pg_VS_6_e q h)) rfl) (pw_app (fun q h => pw_in (pw_t7 _ (pw_bat pg_VS_7_e q h)) rfl) (pw_app (fun q h => pw_in (pw_t8 _ (pw_bat pg_VS_8_e q h)) rfl) (pw_app (fun q h => pw_in (pw_t9 _ (pw_bat pg_VS_9_e q h)) rfl) (pw_nil)))))))))
def pg_VO_1 : List (Nat) := [0, 1, 2, 3, 4, 5, 6, 7, 8, 9, 10, 11, 12, 13]
set_option maxRecDepth 100000 in
set_option maxHeartbeats 4000000 in
theorem pg_VO_1_e : [7, 6, 10, 8, 3, 9, 11, 13, 2, 5, 19, 1, 12, 4].map (fun i => tables_1_1[i]?) = pg_VO_1.map (fun q => some (Cond.initialized (pg_N q))) := rfl
def pg_VO : List (Nat) := pg_VO_1 ++ ([])
theorem pg_VO_in : ∀ q ∈ pg_VO, Cond.initialized (pg_N q) ∈ pg_Ts := pw_app (fun q h => pw_in (pw_t1 _ (pw_bat pg_VO_1_e q h)) rfl) (pw_nil)
def pg_VN_1 : List (Nat) := [0, 1, 4, 8, 9, 11]
set_option maxRecDepth 100000 in
set_option maxHeartbeats 4000000 in
theorem pg_VN_1_e : [207, 182, 36, 30, 176, 22].map (fun i => tables_1_1[i]?) = pg_VN_1.map (fun q => some (Cond.instantiable (pg_N q) (pg_F q))) := rfl
def pg_VN_2 : List (Nat) := [2, 3, 5, 6]
set_option maxRecDepth 100000 in
set_option maxHeartbeats 4000000 in
theorem pg_VN_2_e : [89, 16, 44, 102].map (fun i => tables_1_2[i]?) = pg_VN_2.map (fun q => some (Cond.instantiable (pg_N q) (pg_F q))) := rfl
def pg_VN_3 : List (Nat) := [7]
set_option maxRecDepth 100000 in
set_option maxHeartbeats 4000000 in
theorem pg_VN_3_e : [58].map (fun i => tables_1_3[i]?) = pg_VN_3.map (fun q => some (Cond.instantiable (pg_N q) (pg_F q))) := rfl
def pg_VN_4 : List (Nat) := [10]
set_option maxRecDepth 100000 in
set_option maxHeartbeats 4000000 in
theorem pg_VN_4_e : [126].map (fun i => tables_1_4[i]?) = pg_VN_4.map (fun q => some (Cond.instantiable (pg_N q) (pg_F q))) := rfl
def pg_VN_6 : List (Nat) := [12]
set_option maxRecDepth 100000 in
set_option maxHeartbeats 4000000 in
theorem pg_VN_6_e : [101].map (fun i => tables_1_6[i]?) = pg_VN_6.map (fun q => some (Cond.instantiable (pg_N q) (pg_F q))) := rfl
def pg_VN : List (Nat) := pg_VN_1 ++ (pg_VN_2 ++ (pg_VN_3 ++ (pg_VN_4 ++ (pg_VN_6 ++ ([])))))
theorem pg_VN_in : ∀ q ∈ pg_VN, Cond.instantiable (pg_N q) (pg_F q) ∈ pg_Ts := pw_app (fun q h => pw_in (pw_t1 _ (pw_bat pg_VN_1_e q h)) rfl) (pw_app (fun q h => pw_in (pw_t2 _ (pw_bat pg_VN_2_e q h)) rfl) (pw_app (fun q h => pw_in (pw_t3 _ (pw_bat pg_VN_3_e q h)) rfl) (pw_app (fun q h => pw_in (pw_t4 _ (pw_bat pg_VN_4_e q h)) rfl) (pw_app (fun q h => pw_in (pw_t6 _ (pw_bat pg_VN_6_e q h)) rfl) (pw_nil)))))
def pg_VP_1 : List (Nat) := [54, 56, 88]
set_option maxRecDepth 100000 in
set_option maxHeartbeats 4000000 in
theorem pg_VP_1_e : [65, 79, 75].map (fun i => tables_1_1[i]?) = pg_VP_1.map (fun q => some (Cond.selects (pg_my q).cls (pg_my q) (pg_my q))) := rfl
def pg_VP_2 : List (Nat) := [53, 55, 89, 90, 91, 92, 93, 94, 101, 145, 146, 147, 148, 149, 150, 151, 152]
set_option maxRecDepth 100000 in
set_option maxHeartbeats 4000000 in
theorem pg_VP_2_e : [216, 169, 165, 191, 200, 208, 220, 229, 237, 157, 174, 183, 187, 195, 204, 212, 224].map (fun i => tables_1_2[i]?) = pg_VP_2.map (fun q => some (Cond.selects (pg_my q).cls (pg_my q) (pg_my q))) := rfl
def pg_VP_3 : List (Nat) := [9, 33, 34, 35, 57, 81, 82, 84, 95, 97, 98, 99, 100, 103, 153, 156, 158, 159, 160, 161]
set_option maxRecDepth 100000 in
set_option maxHeartbeats 4000000 in
theorem pg_VP_3_e : [56, 219, 223, 85, 1, 89, 175, 206, 239, 34, 30, 26, 13, 9, 5, 40, 48, 52, 215, 227].map (fun i => tables_1_3[i]?) = pg_VP_3.map (fun q => some (Cond.selects (pg_my q).cls (pg_my q) (pg_my q))) := rfl
def pg_VP_4 : List (Nat) := [2, 13, 14, 15, 17, 18, 19, 59, 83, 85, 96, 109, 138, 163, 164, 165, 166, 167, 168, 169, 170]
set_option maxRecDepth 100000 in
set_option maxHeartbeats 4000000 in
theorem pg_VP_4_e : [124, 84, 80, 88, 68, 72, 11, 191, 24, 55, 100, 120, 178, 3, 64, 76, 96, 104, 108, 112, 116].map (fun i => tables_1_4[i]?) = pg_VP_4.map (fun q => some (Cond.selects (pg_my q).cls (pg_my q) (pg_my q))) := rfl
def pg_VP_5 : List (Nat) := [1, 3, 4, 26, 27, 58, 60, 63, 87, 104, 105, 106, 108, 171, 172, 173, 174, 175, 177, 178, 180, 181, 182, 183, 184, 185]
set_option maxRecDepth 100000 in
set_option maxHeartbeats 4000000 in
theorem pg_VP_5_e : [69, 65, 84, 194, 167, 146, 130, 206, 126, 8, 12, 4, 138, 92, 96, 100, 104, 108, 112, 122, 151, 155, 159, 163, 198, 202].map (fun i => tables_1_5[i]?) = pg_VP_5.map (fun q => some (Cond.selects (pg_my q).cls (pg_my q) (pg_my q))) := rfl
def pg_VP_6 : List (Nat) := [5, 7, 11, 62, 75, 76, 77, 78, 79, 139, 186, 187, 188, 189, 190, 191, 192, 193]
set_option maxRecDepth 100000 in
set_option maxHeartbeats 4000000 in
theorem pg_VP_6_e : [27, 47, 98, 19, 60, 43, 64, 73, 81, 34, 23, 39, 56, 69, 77, 86, 90, 94].map (fun i => tables_1_6[i]?) = pg_VP_6.map (fun q => some (Cond.selects (pg_my q).cls (pg_my q) (pg_my q))) := rfl
def pg_VP_7 : List (Nat) := [206, 207, 208, 210, 211, 212, 213, 214, 218, 219, 221, 222, 223, 224, 226, 227, 259]
set_option maxRecDepth 100000 in
set_option maxHeartbeats 4000000 in
theorem pg_VP_7_e : [4, 19, 26, 30, 38, 43, 47, 51, 63, 95, 103, 107, 111, 115, 119, 127, 131].map (fun i => tables_1_7[i]?) = pg_VP_7.map (fun q => some (Cond.selects (pg_my q).cls (pg_my q) (pg_my q))) := rfl
def pg_VP_8 : List (Nat) := [260, 273, 274, 277, 294, 295, 297, 298, 299, 300, 301, 304, 305, 306, 307, 310, 311, 315]
set_option maxRecDepth 100000 in
set_option maxHeartbeats 4000000 in
theorem pg_VP_8_e : [16, 20, 74, 78, 90, 165, 169, 177, 181, 185, 189, 193, 205, 209, 213, 217, 229, 233].map (fun i => tables_1_8[i]?) = pg_VP_8.map (fun q => some (Cond.selects (pg_my q).cls (pg_my q) (pg_my q))) := rfl
def pg_VP_9 : List (Nat) := [317, 319, 321, 322, 323, 324, 325, 326]
set_option maxRecDepth 100000 in
set_option maxHeartbeats 4000000 in
theorem pg_VP_9_e : [9, 17, 25, 32, 36, 40, 44, 48].map (fun i => tables_1_9[i]?) = pg_VP_9.map (fun q => some (Cond.selects (pg_my q).cls (pg_my q) (pg_my q))) := rfl
def pg_VP : List (Nat) := pg_VP_1 ++ (pg_VP_2 ++ (pg_VP_3 ++ (pg_VP_4 ++ (pg_VP_5 ++ (pg_VP_6 ++ (pg_VP_7 ++ (pg_VP_8 ++ (pg_VP_9 ++ ([])))))))))
theorem pg_VP_in : ∀ q ∈ pg_VP, Cond.selects (pg_my q).cls (pg_my q) (pg_my q) ∈ pg_Ts := pw_app (fun q h => pw_in (pw_t1 _ (pw_bat pg_VP_1_e q h)) rfl) (pw_app (fun q h => pw_in (pw_t2 _ (pw_bat pg_VP_2_e q h)) rfl) (pw_app (fun q h => pw_in (pw_t3 _ (pw_bat pg_VP_3_e q h)) rfl) (pw_app (fun q h => pw_in (pw_t4 _ (pw_bat pg_VP_4_e q h)) rfl) (pw_app (fun q h => pw_in (pw_t5 _ (pw_bat pg_VP_5_e q h)) rfl) (pw_app (fun q h => pw_in (pw_t6 _ (pw_bat pg_VP_6_e q h)) rfl) (pw_app (fun q h => pw_in (pw_t7 _ (pw_bat pg_VP_7_e q h)) rfl) (pw_app (fun q h => pw_in (pw_t8 _ (pw_bat pg_VP_8_e q h)) rfl) (pw_app (fun q h => pw_in (pw_t9 _ (pw_bat pg_VP_9_e q h)) rfl) (pw_nil)))))))))
set_option maxRecDepth 100000 in
theorem pg_VQ_1_e : [4, 5, 7, 8, 13, 6, 9, 10, 11, 12, 0, 15, 14, 1, 2, 3].map (fun i => (lw_privs_1[i]?).map Prod.fst) = [36, 43, 44, 45, 46, 47, 48, 49, 50, 51, 102, 143, 144, 154, 155, 157].map (fun q => some (pg_my q)) := rfl
set_option maxRecDepth 100000 in
theorem pg_VQ_2_e : [2, 1, 3, 4, 5, 6, 7, 8, 13, 9, 10, 12, 11, 14, 15, 0].map (fun i => (lw_privs_2[i]?).map Prod.fst) = [10, 12, 20, 21, 22, 24, 110, 113, 114, 115, 116, 117, 118, 119, 121, 162].map (fun q => some (pg_my q)) := rfl
set_option maxRecDepth 100000 in
theorem pg_VQ_3_e : [14, 15, 0, 1, 2, 3, 4, 5, 6, 7, 8, 9, 10, 11, 12, 13].map (fun i => (lw_privs_3[i]?).map Prod.fst) = [30, 31, 122, 123, 124, 125, 126, 127, 128, 129, 130, 131, 132, 135, 176, 179].map (fun q => some (pg_my q)) := rfl
set_option maxRecDepth 100000 in
theorem pg_VQ_4_e : [0, 1, 2, 4, 3, 5, 7, 6, 8, 9, 14, 12, 11, 13, 10, 15].map (fun i => (lw_privs_4[i]?).map Prod.fst) = [64, 65, 66, 67, 68, 69, 70, 71, 72, 197, 199, 200, 202, 203, 209, 217].map (fun q => some (pg_my q)) := rfl
set_option maxRecDepth 100000 in
theorem pg_VQ_5_e : [2, 1, 3, 0, 4, 5, 8, 7, 14, 13, 15, 12, 11, 10, 9, 6].map (fun i => (lw_privs_5[i]?).map Prod.fst) = [198, 201, 215, 216, 220, 225, 228, 231, 244, 245, 246, 247, 253, 255, 257, 258].map (fun q => some (pg_my q)) := rfl
set_option maxRecDepth 100000 in
theorem pg_VQ_6_e : [6, 15, 7, 1, 2, 3, 0, 5, 4, 13, 12, 11, 9, 10, 8, 14].map (fun i => (lw_privs_6[i]?).map Prod.fst) = [235, 236, 237, 238, 239, 240, 241, 242, 243, 248, 249, 250, 251, 252, 254, 256].map (fun q => some (pg_my q)) := rfl
set_option maxRecDepth 100000 in
theorem pg_VQ_7_e : [8, 7, 9, 6, 4, 3, 2, 1, 5, 10, 0, 12, 11, 15, 14, 13].map (fun i => (lw_privs_7[i]?).map Prod.fst) = [261, 262, 263, 264, 265, 266, 267, 268, 269, 270, 271, 275, 276, 282, 291, 293].map (fun q => some (pg_my q)) := rfl
set_option maxRecDepth 100000 in
theorem pg_VQ_8_e : [3, 0, 2, 1, 5, 4, 7, 6, 8, 10, 11, 9, 12, 13, 14, 15].map (fun i => (lw_privs_8[i]?).map Prod.fst) = [278, 279, 280, 281, 283, 284, 285, 286, 287, 288, 289, 290, 292, 296, 302, 303].map (fun q => some (pg_my q)) := rfl
set_option maxRecDepth 100000 in
theorem pg_VQ_9_e : [0, 2, 3, 1, 4, 5].map (fun i => (lw_privs_9[i]?).map Prod.fst) = [308, 312, 313, 314, 316, 318].map (fun q => some (pg_my q)) := rfl
theorem pw_priv {is qs : List Nat} {tb : List (MethodName × Nat)} (h : is.map (fun i => (tb[i]?).map Prod.fst) = qs.map (fun q => some (pg_my q))) (ht : ∀ y ∈ tb, y ∈ lw_privs) : ∀ q ∈ qs, Cond.selects (pg_my q).cls (pg_my q) (pg_my q) ∈ pg_Ts := by
  intro q hq
  have h1 : some (pg_my q) ∈ is.map (fun i => (tb[i]?).map Prod.fst) := by rw [h]; exact List.mem_map.mpr ⟨q, hq, rfl⟩
  obtain ⟨i, -, hi⟩ := List.mem_map.mp h1
  obtain ⟨y, hy, e⟩ := Option.map_eq_some_iff.mp hi
  have hm := ht y (List.mem_of_getElem? hy)
  rw [← e]
  exact pw_in (List.mem_append_left _ (List.mem_map.mpr ⟨y, hm, rfl⟩)) rfl
theorem pw_v1 : ∀ y ∈ lw_privs_1, y ∈ lw_privs := fun _ h => (List.mem_append_left _ h)
theorem pw_v2 : ∀ y ∈ lw_privs_2, y ∈ lw_privs := fun _ h => (List.mem_append_right _ (List.mem_append_left _ h))
theorem pw_v3 : ∀ y ∈ lw_privs_3, y ∈ lw_privs := fun _ h => (List.mem_append_right _ (List.mem_append_right _ (List.mem_append_left _ h)))
theorem pw_v4 : ∀ y ∈ lw_privs_4, y ∈ lw_privs := fun _ h => (List.mem_append_right _ (List.mem_append_right _ (List.mem_append_right _ (List.mem_append_left _ h))))
theorem pw_v5 : ∀ y ∈ lw_privs_5, y ∈ lw_privs := fun _ h => (List.mem_append_right _ (List.mem_append_right _ (List.mem_append_right _ (List.mem_append_right _ (List.mem_append_left _ h)))))
theorem pw_v6 : ∀ y ∈ lw_privs_6, y ∈ lw_privs := fun _ h => (List.mem_append_right _ (List.mem_append_right _ (List.mem_append_right _ (List.mem_append_right _ (List.mem_append_right _ (List.mem_append_left _ h))))))
theorem pw_v7 : ∀ y ∈ lw_privs_7, y ∈ lw_privs := fun _ h => (List.mem_append_right _ (List.mem_append_right _ (List.mem_append_right _ (List.mem_append_right _ (List.mem_append_right _ (List.mem_append_right _ (List.mem_append_left _ h)))))))
theorem pw_v8 : ∀ y ∈ lw_privs_8, y ∈ lw_privs := fun _ h => (List.mem_append_right _ (List.mem_append_right _ (List.mem_append_right _ (List.mem_append_right _ (List.mem_append_right _ (List.mem_append_right _ (List.mem_append_right _ (List.mem_append_left _ h))))))))
theorem pw_v9 : ∀ y ∈ lw_privs_9, y ∈ lw_privs := fun _ h => (List.mem_append_right _ (List.mem_append_right _ (List.mem_append_right _ (List.mem_append_right _ (List.mem_append_right _ (List.mem_append_right _ (List.mem_append_right _ (List.mem_append_right _ h))))))))
def pg_VQ : List Nat := [36, 43, 44, 45, 46, 47, 48, 49, 50, 51, 102, 143, 144, 154, 155, 157] ++ ([10, 12, 20, 21, 22, 24, 110, 113, 114, 115, 116, 117, 118, 119, 121, 162] ++ ([30, 31, 122, 123, 124, 125, 126, 127, 128, 129, 130, 131, 132, 135, 176, 179] ++ ([64, 65, 66, 67, 68, 69, 70, 71, 72, 197, 199, 200, 202, 203, 209, 217] ++ ([198, 201, 215, 216, 220, 225, 228, 231, 244, 245, 246, 247, 253, 255, 257, 258] ++ ([235, 236, 237, 238, 239, 240, 241, 242, 243, 248, 249, 250, 251, 252, 254, 256] ++ ([261, 262, 263, 264, 265, 266, 267, 268, 269, 270, 271, 275, 276, 282, 291, 293] ++ ([278, 279, 280, 281, 283, 284, 285, 286, 287, 288, 289, 290, 292, 296, 302, 303] ++ ([308, 312, 313, 314, 316, 318] ++ ([])))))))))
theorem pg_VQ_in : ∀ q ∈ pg_VQ, Cond.selects (pg_my q).cls (pg_my q) (pg_my q) ∈ pg_Ts := pw_app (pw_priv pg_VQ_1_e pw_v1) (pw_app (pw_priv pg_VQ_2_e pw_v2) (pw_app (pw_priv pg_VQ_3_e pw_v3) (pw_app (pw_priv pg_VQ_4_e pw_v4) (pw_app (pw_priv pg_VQ_5_e pw_v5) (pw_app (pw_priv pg_VQ_6_e pw_v6) (pw_app (pw_priv pg_VQ_7_e pw_v7) (pw_app (pw_priv pg_VQ_8_e pw_v8) (pw_app (pw_priv pg_VQ_9_e pw_v9) (pw_nil)))))))))
set_option maxRecDepth 100000 in
theorem pw_kind : ∀ q ∈ pg_ML, q.2.2 ∈ pg_VC ∧ pg_mx q.2.2 ≤ 40 ∧ pg_mc q.2.2 < 14 ∧ ((pg_mk q.2.2 = 0 ∧ pg_mc q.2.2 < 13 ∧ q.2.2 ∈ pg_VI ∧ (q.2.2 ∈ pg_VP ∨ q.2.2 ∈ pg_VQ)) ∨ (pg_mk q.2.2 = 1 ∧ pg_mc q.2.2 < 13 ∧ q.2.2 ∈ pg_VI ∧ q.2.2 ∈ [0, 8, 25, 32, 52, 61, 73, 80, 86, 107, 137, 140, 194]) ∨ (pg_mk q.2.2 = 2 ∧ q.2.2 ∈ pg_VS)) := by decide +kernel
theorem pw_init : ∀ M ∈ ([0, 8, 25, 32, 52, 61, 73, 80, 86, 107, 137, 140, 194] : List Nat), (pg_my M).name = "<init>" ∧ pg_mr M = none := by decide +kernel
theorem pw_own : ∀ c, c < 14 → plainName (pg_N c) = true ∧ pg_N c ≠ "java/lang/invoke/MethodHandle" ∧ pg_N c ≠ "java/lang/invoke/VarHandle" ∧ c ∈ pg_VO := by decide +kernel
theorem pw_d0 : ∀ M ∈ ([0, 1, 2, 3, 4, 5, 6, 7, 8, 9, 10, 11, 12, 13, 14, 15, 16, 17, 18, 19, 20, 21, 22, 23, 24, 25, 26, 27, 28, 29, 30, 31, 32, 33, 34, 35, 36, 37, 38, 39] : List Nat), (parseMethodDescriptor (pg_my M).desc).map (fun d => d.parameters.length) = some (pg_na M) := by decide +kernel
theorem pw_d1 : ∀ M ∈ ([40, 41, 42, 43, 44, 45, 46, 47, 48, 49, 50, 51, 52, 53, 54, 55, 56, 57, 58, 59, 60, 61, 62, 63, 64, 65, 66, 67, 68, 69, 70, 71, 72, 73, 74, 75, 76, 77, 78, 79] : List Nat), (parseMethodDescriptor (pg_my M).desc).map (fun d => d.parameters.length) = some (pg_na M) := by decide +kernel
theorem pw_d2 : ∀ M ∈ ([80, 81, 82, 83, 84, 85, 86, 87, 88, 89, 90, 91, 92, 93, 94, 95, 96, 97, 98, 99, 100, 101, 102, 103, 104, 105, 106, 107, 108, 109, 110, 111, 112, 113, 114, 115, 116, 117, 118, 119] : List Nat), (parseMethodDescriptor (pg_my M).desc).map (fun d => d.parameters.length) = some (pg_na M) := by decide +kernel
theorem pw_d3 : ∀ M ∈ ([120, 121, 122, 123, 124, 125, 126, 127, 128, 129, 130, 131, 132, 133, 134, 135, 136, 137, 138, 139, 140, 141, 142, 143, 144, 145, 146, 147, 148, 149, 150, 151, 152, 153, 154, 155, 156, 157, 158, 159] : List Nat), (parseMethodDescriptor (pg_my M).desc).map (fun d => d.parameters.length) = some (pg_na M) := by decide +kernel
theorem pw_d4 : ∀ M ∈ ([160, 161, 162, 163, 164, 165, 166, 167, 168, 169, 170, 171, 172, 173, 174, 175, 176, 177, 178, 179, 180, 181, 182, 183, 184, 185, 186, 187, 188, 189, 190, 191, 192, 193, 194, 195, 196, 197, 198, 199] : List Nat), (parseMethodDescriptor (pg_my M).desc).map (fun d => d.parameters.length) = some (pg_na M) := by decide +kernel
theorem pw_d5 : ∀ M ∈ ([200, 201, 202, 203, 204, 205, 206, 207, 208, 209, 210, 211, 212, 213, 214, 215, 216, 217, 218, 219, 220, 221, 222, 223, 224, 225, 226, 227, 228, 229, 230, 231, 232, 233, 234, 235, 236, 237, 238, 239] : List Nat), (parseMethodDescriptor (pg_my M).desc).map (fun d => d.parameters.length) = some (pg_na M) := by decide +kernel
theorem pw_d6 : ∀ M ∈ ([240, 241, 242, 243, 244, 245, 246, 247, 248, 249, 250, 251, 252, 253, 254, 255, 256, 257, 258, 259, 260, 261, 262, 263, 264, 265, 266, 267, 268, 269, 270, 271, 272, 273, 274, 275, 276, 277, 278, 279] : List Nat), (parseMethodDescriptor (pg_my M).desc).map (fun d => d.parameters.length) = some (pg_na M) := by decide +kernel
theorem pw_d7 : ∀ M ∈ ([280, 281, 282, 283, 284, 285, 286, 287, 288, 289, 290, 291, 292, 293, 294, 295, 296, 297, 298, 299, 300, 301, 302, 303, 304, 305, 306, 307, 308, 309, 310, 311, 312, 313, 314, 315, 316, 317, 318, 319] : List Nat), (parseMethodDescriptor (pg_my M).desc).map (fun d => d.parameters.length) = some (pg_na M) := by decide +kernel
theorem pw_d8 : ∀ M ∈ ([320, 321, 322, 323, 324, 325, 326, 327, 328, 329, 330] : List Nat), (parseMethodDescriptor (pg_my M).desc).map (fun d => d.parameters.length) = some (pg_na M) := by decide +kernel
theorem pw_desc : ∀ M ∈ pg_VC, (parseMethodDescriptor (pg_my M).desc).map (fun d => d.parameters.length) = some (pg_na M) := by
  intro M hM
  have h : M ∈ (([0, 1, 2, 3, 4, 5, 6, 7, 8, 9, 10, 11, 12, 13, 14, 15, 16, 17, 18, 19, 20, 21, 22, 23, 24, 25, 26, 27, 28, 29, 30, 31, 32, 33, 34, 35, 36, 37, 38, 39] : List Nat) ++ ([40, 41, 42, 43, 44, 45, 46, 47, 48, 49, 50, 51, 52, 53, 54, 55, 56, 57, 58, 59, 60, 61, 62, 63, 64, 65, 66, 67, 68, 69, 70, 71, 72, 73, 74, 75, 76, 77, 78, 79] : List Nat) ++ ([80, 81, 82, 83, 84, 85, 86, 87, 88, 89, 90, 91, 92, 93, 94, 95, 96, 97, 98, 99, 100, 101, 102, 103, 104, 105, 106, 107, 108, 109, 110, 111, 112, 113, 114, 115, 116, 117, 118, 119] : List Nat) ++ ([120, 121, 122, 123, 124, 125, 126, 127, 128, 129, 130, 131, 132, 133, 134, 135, 136, 137, 138, 139, 140, 141, 142, 143, 144, 145, 146, 147, 148, 149, 150, 151, 152, 153, 154, 155, 156, 157, 158, 159] : List Nat) ++ ([160, 161, 162, 163, 164, 165, 166, 167, 168, 169, 170, 171, 172, 173, 174, 175, 176, 177, 178, 179, 180, 181, 182, 183, 184, 185, 186, 187, 188, 189, 190, 191, 192, 193, 194, 195, 196, 197, 198, 199] : List Nat) ++ ([200, 201, 202, 203, 204, 205, 206, 207, 208, 209, 210, 211, 212, 213, 214, 215, 216, 217, 218, 219, 220, 221, 222, 223, 224, 225, 226, 227, 228, 229, 230, 231, 232, 233, 234, 235, 236, 237, 238, 239] : List Nat) ++ ([240, 241, 242, 243, 244, 245, 246, 247, 248, 249, 250, 251, 252, 253, 254, 255, 256, 257, 258, 259, 260, 261, 262, 263, 264, 265, 266, 267, 268, 269, 270, 271, 272, 273, 274, 275, 276, 277, 278, 279] : List Nat) ++ ([280, 281, 282, 283, 284, 285, 286, 287, 288, 289, 290, 291, 292, 293, 294, 295, 296, 297, 298, 299, 300, 301, 302, 303, 304, 305, 306, 307, 308, 309, 310, 311, 312, 313, 314, 315, 316, 317, 318, 319] : List Nat) ++ ([320, 321, 322, 323, 324, 325, 326, 327, 328, 329, 330] : List Nat) : List Nat) := by
    have hs : ∀ M ∈ pg_VC, M ∈ (([0, 1, 2, 3, 4, 5, 6, 7, 8, 9, 10, 11, 12, 13, 14, 15, 16, 17, 18, 19, 20, 21, 22, 23, 24, 25, 26, 27, 28, 29, 30, 31, 32, 33, 34, 35, 36, 37, 38, 39] : List Nat) ++ ([40, 41, 42, 43, 44, 45, 46, 47, 48, 49, 50, 51, 52, 53, 54, 55, 56, 57, 58, 59, 60, 61, 62, 63, 64, 65, 66, 67, 68, 69, 70, 71, 72, 73, 74, 75, 76, 77, 78, 79] : List Nat) ++ ([80, 81, 82, 83, 84, 85, 86, 87, 88, 89, 90, 91, 92, 93, 94, 95, 96, 97, 98, 99, 100, 101, 102, 103, 104, 105, 106, 107, 108, 109, 110, 111, 112, 113, 114, 115, 116, 117, 118, 119] : List Nat) ++ ([120, 121, 122, 123, 124, 125, 126, 127, 128, 129, 130, 131, 132, 133, 134, 135, 136, 137, 138, 139, 140, 141, 142, 143, 144, 145, 146, 147, 148, 149, 150, 151, 152, 153, 154, 155, 156, 157, 158, 159] : List Nat) ++ ([160, 161, 162, 163, 164, 165, 166, 167, 168, 169, 170, 171, 172, 173, 174, 175, 176, 177, 178, 179, 180, 181, 182, 183, 184, 185, 186, 187, 188, 189, 190, 191, 192, 193, 194, 195, 196, 197, 198, 199] : List Nat) ++ ([200, 201, 202, 203, 204, 205, 206, 207, 208, 209, 210, 211, 212, 213, 214, 215, 216, 217, 218, 219, 220, 221, 222, 223, 224, 225, 226, 227, 228, 229, 230, 231, 232, 233, 234, 235, 236, 237, 238, 239] : List Nat) ++ ([240, 241, 242, 243, 244, 245, 246, 247, 248, 249, 250, 251, 252, 253, 254, 255, 256, 257, 258, 259, 260, 261, 262, 263, 264, 265, 266, 267, 268, 269, 270, 271, 272, 273, 274, 275, 276, 277, 278, 279] : List Nat) ++ ([280, 281, 282, 283, 284, 285, 286, 287, 288, 289, 290, 291, 292, 293, 294, 295, 296, 297, 298, 299, 300, 301, 302, 303, 304, 305, 306, 307, 308, 309, 310, 311, 312, 313, 314, 315, 316, 317, 318, 319] : List Nat) ++ ([320, 321, 322, 323, 324, 325, 326, 327, 328, 329, 330] : List Nat) : List Nat) := by decide +kernel
    exact hs M hM
  simp only [List.mem_append] at h
  rcases h with ((((((((h | h) | h) | h) | h) | h) | h) | h) | h)
  · exact pw_d0 M h
  · exact pw_d1 M h
  · exact pw_d2 M h
  · exact pw_d3 M h
  · exact pw_d4 M h
  · exact pw_d5 M h
  · exact pw_d6 M h
  · exact pw_d7 M h
  · exact pw_d8 M h
