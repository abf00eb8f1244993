set_option maxRecDepth 100000 in
set_option maxHeartbeats 4000000 in
theorem oX6_setVolts (l : Launch) (G : GG) (a : AT) (O : OS) (r v : Int32) (hk4 : oK O < 4) (hs4 : oS O ≤ 4) {q : Int32 × SC} (e : chVolts (oN O) r v = q) : MU l G yX6_setVolts wsX6_setVolts ({ frames := 6, cells := 0, slots := 0, locals := 123 } : Room) [.ref (aaX a), .int r, .int v] (obW G a O) (some (.int (q.1))) (obW G a (recO O q)) := by
  subst e
  exact MU.wide (kX6_setVolts l G (aaX a) (aaH a) (aaS a) (aaT a) (aaN a) (aaB a) (aaA a) (aaM a) (aaD a) (oP O) (oh O) (o1 O) (o2 O) (oS O) (oK O) (oN O) (oB O) r v hk4 hs4) [0, 69, 70, 71, 72, 73, 74, 75, 76, 77, 78, 79, 80, 81, 82, 83, 84, 85, 86, 87, 88, 89, 90, 91, 92, 93, 94, 95, 96, 97, 98, 99, 100, 101, 102, 103, 104, 105, 106, 107, 108, 109, 110, 111, 112, 113, 114, 115, 116, 117, 118, 119, 120, 121, 122, 123, 124, 125, 126, 127, 128, 129, 130, 131, 132, 133, 134, 135, 136, 137, 138, 1, 2, 3, 4, 5, 6, 7, 8, 9, 10, 11, 12, 13, 14, 15, 16, 17, 18, 19, 20, 21, 22, 23, 24, 25, 26, 27, 28, 29, 30, 31, 32, 33, 34] [35, 36, 37, 38, 39, 40, 41, 42, 43, 44, 45, 46, 47, 48, 49, 50, 51, 52, 53, 54, 55, 56, 57, 58, 59, 60, 61, 62, 63, 64, 65, 66, 67, 68, 139, 140] (obA a) (obW_ads _ _ _) (obW_ads _ _ _) rfl (by decide +kernel) rfl 141 rfl (by decide +kernel) rfl
theorem oX6_setVolts_no (l : Launch) (G : GG) (a : AT) (O : OS) (r v : Int32) (hk4 : oK O < 4) (hs4 : oS O ≤ 4) {v0 : Int32} (e : chVolts (oN O) r v = (v0, oN O)) (hv : v0 < 0) : MU l G yX6_setVolts wsX6_setVolts ({ frames := 6, cells := 0, slots := 0, locals := 123 } : Room) [.ref (aaX a), .int r, .int v] (obW G a O) (some (.int v0)) (obW G a (setB O)) := by
  have h0 := oX6_setVolts l G a O r v hk4 hs4 e
  rw [recO_no hv] at h0
  exact h0
set_option maxRecDepth 100000 in
set_option maxHeartbeats 4000000 in
theorem oX6_setSteps (l : Launch) (G : GG) (a : AT) (O : OS) (r h v : Int32) (hk4 : oK O < 4) (hs4 : oS O ≤ 4) {q : Int32 × SC} (e : chSteps (oN O) r h v = q) : MU l G yX6_setSteps wsX6_setSteps ({ frames := 6, cells := 0, slots := 0, locals := 123 } : Room) [.ref (aaX a), .int r, .int h, .int v] (obW G a O) (some (.int (q.1))) (obW G a (recO O q)) := by
  subst e
  exact MU.wide (kX6_setSteps l G (aaX a) (aaH a) (aaS a) (aaT a) (aaN a) (aaB a) (aaA a) (aaM a) (aaD a) (oP O) (oh O) (o1 O) (o2 O) (oS O) (oK O) (oN O) (oB O) r h v hk4 hs4) [0, 69, 70, 71, 72, 73, 74, 75, 76, 77, 78, 79, 80, 81, 82, 83, 84, 85, 86, 87, 88, 89, 90, 91, 92, 93, 94, 95, 96, 97, 98, 99, 100, 101, 102, 103, 104, 105, 106, 107, 108, 109, 110, 111, 112, 113, 114, 115, 116, 117, 118, 119, 120, 121, 122, 123, 124, 125, 126, 127, 128, 129, 130, 131, 132, 133, 134, 135, 136, 137, 138, 1, 2, 3, 4, 5, 6, 7, 8, 9, 10, 11, 12, 13, 14, 15, 16, 17, 18, 19, 20, 21, 22, 23, 24, 25, 26, 27, 28, 29, 30, 31, 32, 33, 34] [35, 36, 37, 38, 39, 40, 41, 42, 43, 44, 45, 46, 47, 48, 49, 50, 51, 52, 53, 54, 55, 56, 57, 58, 59, 60, 61, 62, 63, 64, 65, 66, 67, 68, 139, 140] (obA a) (obW_ads _ _ _) (obW_ads _ _ _) rfl (by decide +kernel) rfl 141 rfl (by decide +kernel) rfl
theorem oX6_setSteps_no (l : Launch) (G : GG) (a : AT) (O : OS) (r h v : Int32) (hk4 : oK O < 4) (hs4 : oS O ≤ 4) {v0 : Int32} (e : chSteps (oN O) r h v = (v0, oN O)) (hv : v0 < 0) : MU l G yX6_setSteps wsX6_setSteps ({ frames := 6, cells := 0, slots := 0, locals := 123 } : Room) [.ref (aaX a), .int r, .int h, .int v] (obW G a O) (some (.int v0)) (obW G a (setB O)) := by
  have h0 := oX6_setSteps l G a O r h v hk4 hs4 e
  rw [recO_no hv] at h0
  exact h0
set_option maxRecDepth 100000 in
set_option maxHeartbeats 4000000 in
theorem oX6_set (l : Launch) (G : GG) (a : AT) (O : OS) (w v : Int32) (hk4 : oK O < 4) (hs4 : oS O ≤ 4) {q : Int32 × SC} (e : chSet (oN O) w v = q) : MU l G yX6_set wsX6_set ({ frames := 6, cells := 0, slots := 0, locals := 123 } : Room) [.ref (aaX a), .int w, .int v] (obW G a O) (some (.int (q.1))) (obW G a (recO O q)) := by
  subst e
  exact MU.wide (kX6_set l G (aaX a) (aaH a) (aaS a) (aaT a) (aaN a) (aaB a) (aaA a) (aaM a) (aaD a) (oP O) (oh O) (o1 O) (o2 O) (oS O) (oK O) (oN O) (oB O) w v hk4 hs4) [0, 69, 70, 71, 72, 73, 74, 75, 76, 77, 78, 79, 80, 81, 82, 83, 84, 85, 86, 87, 88, 89, 90, 91, 92, 93, 94, 95, 96, 97, 98, 99, 100, 101, 102, 103, 104, 105, 106, 107, 108, 109, 110, 111, 112, 113, 114, 115, 116, 117, 118, 119, 120, 121, 122, 123, 124, 125, 126, 127, 128, 129, 130, 131, 132, 133, 134, 135, 136, 137, 138, 1, 2, 3, 4, 5, 6, 7, 8, 9, 10, 11, 12, 13, 14, 15, 16, 17, 18, 19, 20, 21, 22, 23, 24, 25, 26, 27, 28, 29, 30, 31, 32, 33, 34] [35, 36, 37, 38, 39, 40, 41, 42, 43, 44, 45, 46, 47, 48, 49, 50, 51, 52, 53, 54, 55, 56, 57, 58, 59, 60, 61, 62, 63, 64, 65, 66, 67, 68, 139, 140] (obA a) (obW_ads _ _ _) (obW_ads _ _ _) rfl (by decide +kernel) rfl 141 rfl (by decide +kernel) rfl
theorem oX6_set_no (l : Launch) (G : GG) (a : AT) (O : OS) (w v : Int32) (hk4 : oK O < 4) (hs4 : oS O ≤ 4) {v0 : Int32} (e : chSet (oN O) w v = (v0, oN O)) (hv : v0 < 0) : MU l G yX6_set wsX6_set ({ frames := 6, cells := 0, slots := 0, locals := 123 } : Room) [.ref (aaX a), .int w, .int v] (obW G a O) (some (.int v0)) (obW G a (setB O)) := by
  have h0 := oX6_set l G a O w v hk4 hs4 e
  rw [recO_no hv] at h0
  exact h0
set_option maxRecDepth 100000 in
set_option maxHeartbeats 4000000 in
theorem oX6_pass (l : Launch) (G : GG) (a : AT) (O : OS) (h : Int32) (hk4 : oK O < 4) (hs4 : oS O ≤ 4) (hok : okS (oN O)) {q : Int32 × SC} (e : lpS (oN O) h = q) : MU l G yX6_pass wsX6_pass ({ frames := 6, cells := 0, slots := 0, locals := 140 } : Room) [.ref (aaX a), .int h] (obW G a O) (some (.int (q.1))) (obW G a (recO O q)) := by
  subst e
  exact MU.wide (kX6_pass l G (aaX a) (aaH a) (aaS a) (aaT a) (aaN a) (aaB a) (aaA a) (aaM a) (aaD a) (oP O) (oh O) (o1 O) (o2 O) (oS O) (oK O) (oN O) (oB O) h hk4 hs4 hok) [0, 69, 70, 71, 72, 73, 74, 75, 76, 77, 78, 79, 80, 81, 82, 83, 84, 85, 86, 87, 88, 89, 90, 91, 92, 93, 94, 95, 96, 97, 98, 99, 100, 101, 102, 103, 104, 105, 106, 107, 108, 109, 110, 111, 112, 113, 114, 115, 116, 117, 118, 119, 120, 121, 122, 123, 124, 125, 126, 127, 128, 129, 130, 131, 132, 133, 134, 135, 136, 137, 138, 1, 2, 3, 4, 5, 6, 7, 8, 9, 10, 11, 12, 13, 14, 15, 16, 17, 18, 19, 20, 21, 22, 23, 24, 25, 26, 27, 28, 29, 30, 31, 32, 33, 34] [35, 36, 37, 38, 39, 40, 41, 42, 43, 44, 45, 46, 47, 48, 49, 50, 51, 52, 53, 54, 55, 56, 57, 58, 59, 60, 61, 62, 63, 64, 65, 66, 67, 68, 139, 140] (obA a) (obW_ads _ _ _) (obW_ads _ _ _) rfl (by decide +kernel) rfl 141 rfl (by decide +kernel) rfl
theorem oX6_pass_no (l : Launch) (G : GG) (a : AT) (O : OS) (h : Int32) (hk4 : oK O < 4) (hs4 : oS O ≤ 4) (hok : okS (oN O)) {v0 : Int32} (e : lpS (oN O) h = (v0, oN O)) (hv : v0 < 0) : MU l G yX6_pass wsX6_pass ({ frames := 6, cells := 0, slots := 0, locals := 140 } : Room) [.ref (aaX a), .int h] (obW G a O) (some (.int v0)) (obW G a (setB O)) := by
  have h0 := oX6_pass l G a O h hk4 hs4 hok e
  rw [recO_no hv] at h0
  exact h0
