set_option maxRecDepth 100000 in
set_option maxHeartbeats 4000000 in
theorem oX6_setBatch (l : Launch) (G : GG) (a : AT) (O : OS) (b li sp : Int32) (hk4 : oK O < 4) (hs4 : oS O ≤ 4) {q : Int32 × SC} (e : chBatch (oN O) b li sp = q) : MU l G yX6_setBatch wsX6_setBatch ({ frames := 6, cells := 0, slots := 0, locals := 123 } : Room) [.ref (aaX a), .int b, .int li, .int sp] (obW G a O) (some (.int (q.1))) (obW G a (recO O q)) := by
  subst e
  exact MU.wide (kX6_setBatch l G (aaX a) (aaH a) (aaS a) (aaT a) (aaN a) (aaB a) (aaA a) (aaM a) (aaD a) (oP O) (oh O) (o1 O) (o2 O) (oS O) (oK O) (oN O) (oB O) b li sp hk4 hs4) [0, 69, 70, 71, 72, 73, 74, 75, 76, 77, 78, 79, 80, 81, 82, 83, 84, 85, 86, 87, 88, 89, 90, 91, 92, 93, 94, 95, 96, 97, 98, 99, 100, 101, 102, 103, 104, 105, 106, 107, 108, 109, 110, 111, 112, 113, 114, 115, 116, 117, 118, 119, 120, 121, 122, 123, 124, 125, 126, 127, 128, 129, 130, 131, 132, 133, 134, 135, 136, 137, 138, 1, 2, 3, 4, 5, 6, 7, 8, 9, 10, 11, 12, 13, 14, 15, 16, 17, 18, 19, 20, 21, 22, 23, 24, 25, 26, 27, 28, 29, 30, 31, 32, 33, 34] [35, 36, 37, 38, 39, 40, 41, 42, 43, 44, 45, 46, 47, 48, 49, 50, 51, 52, 53, 54, 55, 56, 57, 58, 59, 60, 61, 62, 63, 64, 65, 66, 67, 68, 139, 140] (obA a) (obW_ads _ _ _) (obW_ads _ _ _) rfl (by decide +kernel) rfl 141 rfl (by decide +kernel) rfl
theorem oX6_setBatch_no (l : Launch) (G : GG) (a : AT) (O : OS) (b li sp : Int32) (hk4 : oK O < 4) (hs4 : oS O ≤ 4) {v0 : Int32} (e : chBatch (oN O) b li sp = (v0, oN O)) (hv : v0 < 0) : MU l G yX6_setBatch wsX6_setBatch ({ frames := 6, cells := 0, slots := 0, locals := 123 } : Room) [.ref (aaX a), .int b, .int li, .int sp] (obW G a O) (some (.int v0)) (obW G a (setB O)) := by
  have h0 := oX6_setBatch l G a O b li sp hk4 hs4 e
  rw [recO_no hv] at h0
  exact h0
set_option maxRecDepth 100000 in
set_option maxHeartbeats 4000000 in
theorem oX6_put (l : Launch) (G : GG) (a : AT) (O : OS) (r p b : Int32) (hk4 : oK O < 4) (hs4 : oS O ≤ 4) (hok : okS (oN O)) {q : Int32 × SC} (e : insS (oN O) r p b = q) : MU l G yX6_put wsX6_put ({ frames := 6, cells := 0, slots := 0, locals := 123 } : Room) [.ref (aaX a), .int r, .int p, .int b] (obW G a O) (some (.int (q.1))) (obW G a (recO O q)) := by
  subst e
  exact MU.wide (kX6_put l G (aaX a) (aaH a) (aaS a) (aaT a) (aaN a) (aaB a) (aaA a) (aaM a) (aaD a) (oP O) (oh O) (o1 O) (o2 O) (oS O) (oK O) (oN O) (oB O) r p b hk4 hs4 hok) [0, 69, 70, 71, 72, 73, 74, 75, 76, 77, 78, 79, 80, 81, 82, 83, 84, 85, 86, 87, 88, 89, 90, 91, 92, 93, 94, 95, 96, 97, 98, 99, 100, 101, 102, 103, 104, 105, 106, 107, 108, 109, 110, 111, 112, 113, 114, 115, 116, 117, 118, 119, 120, 121, 122, 123, 124, 125, 126, 127, 128, 129, 130, 131, 132, 133, 134, 135, 136, 137, 138, 1, 2, 3, 4, 5, 6, 7, 8, 9, 10, 11, 12, 13, 14, 15, 16, 17, 18, 19, 20, 21, 22, 23, 24, 25, 26, 27, 28, 29, 30, 31, 32, 33, 34] [35, 36, 37, 38, 39, 40, 41, 42, 43, 44, 45, 46, 47, 48, 49, 50, 51, 52, 53, 54, 55, 56, 57, 58, 59, 60, 61, 62, 63, 64, 65, 66, 67, 68, 139, 140] (obA a) (obW_ads _ _ _) (obW_ads _ _ _) rfl (by decide +kernel) rfl 141 rfl (by decide +kernel) rfl
theorem oX6_put_no (l : Launch) (G : GG) (a : AT) (O : OS) (r p b : Int32) (hk4 : oK O < 4) (hs4 : oS O ≤ 4) (hok : okS (oN O)) {v0 : Int32} (e : insS (oN O) r p b = (v0, oN O)) (hv : v0 < 0) : MU l G yX6_put wsX6_put ({ frames := 6, cells := 0, slots := 0, locals := 123 } : Room) [.ref (aaX a), .int r, .int p, .int b] (obW G a O) (some (.int v0)) (obW G a (setB O)) := by
  have h0 := oX6_put l G a O r p b hk4 hs4 hok e
  rw [recO_no hv] at h0
  exact h0
set_option maxRecDepth 100000 in
set_option maxHeartbeats 4000000 in
theorem oX6_takeOut (l : Launch) (G : GG) (a : AT) (O : OS) (r p : Int32) (hk4 : oK O < 4) (hs4 : oS O ≤ 4) (hok : okS (oN O)) {q : Int32 × SC} (e : rmS (oN O) r p = q) : MU l G yX6_takeOut wsX6_takeOut ({ frames := 6, cells := 0, slots := 0, locals := 123 } : Room) [.ref (aaX a), .int r, .int p] (obW G a O) (some (.int (q.1))) (obW G a (recO O q)) := by
  subst e
  exact MU.wide (kX6_takeOut l G (aaX a) (aaH a) (aaS a) (aaT a) (aaN a) (aaB a) (aaA a) (aaM a) (aaD a) (oP O) (oh O) (o1 O) (o2 O) (oS O) (oK O) (oN O) (oB O) r p hk4 hs4 hok) [0, 69, 70, 71, 72, 73, 74, 75, 76, 77, 78, 79, 80, 81, 82, 83, 84, 85, 86, 87, 88, 89, 90, 91, 92, 93, 94, 95, 96, 97, 98, 99, 100, 101, 102, 103, 104, 105, 106, 107, 108, 109, 110, 111, 112, 113, 114, 115, 116, 117, 118, 119, 120, 121, 122, 123, 124, 125, 126, 127, 128, 129, 130, 131, 132, 133, 134, 135, 136, 137, 138, 1, 2, 3, 4, 5, 6, 7, 8, 9, 10, 11, 12, 13, 14, 15, 16, 17, 18, 19, 20, 21, 22, 23, 24, 25, 26, 27, 28, 29, 30, 31, 32, 33, 34] [35, 36, 37, 38, 39, 40, 41, 42, 43, 44, 45, 46, 47, 48, 49, 50, 51, 52, 53, 54, 55, 56, 57, 58, 59, 60, 61, 62, 63, 64, 65, 66, 67, 68, 139, 140] (obA a) (obW_ads _ _ _) (obW_ads _ _ _) rfl (by decide +kernel) rfl 141 rfl (by decide +kernel) rfl
theorem oX6_takeOut_no (l : Launch) (G : GG) (a : AT) (O : OS) (r p : Int32) (hk4 : oK O < 4) (hs4 : oS O ≤ 4) (hok : okS (oN O)) {v0 : Int32} (e : rmS (oN O) r p = (v0, oN O)) (hv : v0 < 0) : MU l G yX6_takeOut wsX6_takeOut ({ frames := 6, cells := 0, slots := 0, locals := 123 } : Room) [.ref (aaX a), .int r, .int p] (obW G a O) (some (.int v0)) (obW G a (setB O)) := by
  have h0 := oX6_takeOut l G a O r p hk4 hs4 hok e
  rw [recO_no hv] at h0
  exact h0
set_option maxRecDepth 100000 in
set_option maxHeartbeats 4000000 in
theorem oX6_swap (l : Launch) (G : GG) (a : AT) (O : OS) (r p r2 p2 : Int32) (hk4 : oK O < 4) (hs4 : oS O ≤ 4) (hok : okS (oN O)) {q : Int32 × SC} (e : exS (oN O) r p r2 p2 = q) : MU l G yX6_swap wsX6_swap ({ frames := 6, cells := 0, slots := 0, locals := 123 } : Room) [.ref (aaX a), .int r, .int p, .int r2, .int p2] (obW G a O) (some (.int (q.1))) (obW G a (recO O q)) := by
  subst e
  exact MU.wide (kX6_swap l G (aaX a) (aaH a) (aaS a) (aaT a) (aaN a) (aaB a) (aaA a) (aaM a) (aaD a) (oP O) (oh O) (o1 O) (o2 O) (oS O) (oK O) (oN O) (oB O) r p r2 p2 hk4 hs4 hok) [0, 69, 70, 71, 72, 73, 74, 75, 76, 77, 78, 79, 80, 81, 82, 83, 84, 85, 86, 87, 88, 89, 90, 91, 92, 93, 94, 95, 96, 97, 98, 99, 100, 101, 102, 103, 104, 105, 106, 107, 108, 109, 110, 111, 112, 113, 114, 115, 116, 117, 118, 119, 120, 121, 122, 123, 124, 125, 126, 127, 128, 129, 130, 131, 132, 133, 134, 135, 136, 137, 138, 1, 2, 3, 4, 5, 6, 7, 8, 9, 10, 11, 12, 13, 14, 15, 16, 17, 18, 19, 20, 21, 22, 23, 24, 25, 26, 27, 28, 29, 30, 31, 32, 33, 34] [35, 36, 37, 38, 39, 40, 41, 42, 43, 44, 45, 46, 47, 48, 49, 50, 51, 52, 53, 54, 55, 56, 57, 58, 59, 60, 61, 62, 63, 64, 65, 66, 67, 68, 139, 140] (obA a) (obW_ads _ _ _) (obW_ads _ _ _) rfl (by decide +kernel) rfl 141 rfl (by decide +kernel) rfl
theorem oX6_swap_no (l : Launch) (G : GG) (a : AT) (O : OS) (r p r2 p2 : Int32) (hk4 : oK O < 4) (hs4 : oS O ≤ 4) (hok : okS (oN O)) {v0 : Int32} (e : exS (oN O) r p r2 p2 = (v0, oN O)) (hv : v0 < 0) : MU l G yX6_swap wsX6_swap ({ frames := 6, cells := 0, slots := 0, locals := 123 } : Room) [.ref (aaX a), .int r, .int p, .int r2, .int p2] (obW G a O) (some (.int v0)) (obW G a (setB O)) := by
  have h0 := oX6_swap l G a O r p r2 p2 hk4 hs4 hok e
  rw [recO_no hv] at h0
  exact h0
