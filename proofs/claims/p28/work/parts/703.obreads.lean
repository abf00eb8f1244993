set_option maxRecDepth 100000 in
set_option maxHeartbeats 4000000 in
theorem oX6_lamp (l : Launch) (G : GG) (a : AT) (O : OS) (x w : Int32) {S : SC} (eS : oN O = S) (hok : okS S) : RO l G yX6_lamp wsX6_lamp ({ frames := 3, cells := 0, slots := 0, locals := 66 } : Room) [.ref (aaX a), .int x, .int w] (obW G a O) (.int (tlS S x w)) := by
  subst eS
  exact RO.wide (kX6_lamp l G (aaX a) (aaH a) (aaT a) (aaN a) (aaB a) (aaA a) (aaM a) (oh O) (o1 O) (o2 O) (oN O) x w hok) [0, 1, 2, 3, 4, 5, 6, 7, 8, 9, 10, 11, 12, 13, 14, 15, 16, 17] rfl (by decide +kernel)
set_option maxRecDepth 100000 in
set_option maxHeartbeats 4000000 in
theorem oX6_rack (l : Launch) (G : GG) (a : AT) (O : OS) (r w : Int32) {S : SC} (eS : oN O = S) (hok : okS S) : RO l G yX6_rack wsX6_rack ({ frames := 3, cells := 0, slots := 0, locals := 69 } : Room) [.ref (aaX a), .int r, .int w] (obW G a O) (.int (trS S r w)) := by
  subst eS
  exact RO.wide (kX6_rack l G (aaX a) (aaH a) (aaT a) (aaN a) (aaB a) (aaA a) (aaM a) (oh O) (o1 O) (o2 O) (oN O) r w hok) [0, 1, 2, 3, 4, 5, 6, 7, 8, 9, 10, 11, 12, 13, 14, 15, 16, 17] rfl (by decide +kernel)
set_option maxRecDepth 100000 in
set_option maxHeartbeats 4000000 in
theorem oX6_at (l : Launch) (G : GG) (a : AT) (O : OS) (r p : Int32) {S : SC} (eS : oN O = S) (hok : okS S) : RO l G yX6_at wsX6_at ({ frames := 3, cells := 0, slots := 0, locals := 63 } : Room) [.ref (aaX a), .int r, .int p] (obW G a O) (.int (atS S r p)) := by
  subst eS
  exact RO.wide (kX6_at l G (aaX a) (aaH a) (aaT a) (aaN a) (aaB a) (aaA a) (aaM a) (oh O) (o1 O) (o2 O) (oN O) r p hok) [0, 1, 2, 3, 4, 5, 6, 7, 8, 9, 10, 11, 12, 13, 14, 15, 16, 17] rfl (by decide +kernel)
set_option maxRecDepth 100000 in
set_option maxHeartbeats 4000000 in
theorem oX6_batch (l : Launch) (G : GG) (a : AT) (O : OS) (b w : Int32) {S : SC} (eS : oN O = S) (hok : okS S) : RO l G yX6_batch wsX6_batch ({ frames := 5, cells := 0, slots := 0, locals := 117 } : Room) [.ref (aaX a), .int b, .int w] (obW G a O) (.int (tbS S b w)) := by
  subst eS
  exact RO.wide (kX6_batch l G (aaX a) (aaH a) (aaT a) (aaN a) (aaB a) (aaA a) (aaM a) (oh O) (o1 O) (o2 O) (oN O) b w hok) [0, 1, 2, 3, 4, 5, 6, 7, 8, 9, 10, 11, 12, 13, 14, 15, 16, 17] rfl (by decide +kernel)
set_option maxRecDepth 100000 in
set_option maxHeartbeats 4000000 in
theorem oX6_lasted (l : Launch) (G : GG) (a : AT) (O : OS) (b h : Int32) {S : SC} (eS : oN O = S) (hok : okS S) : RO l G yX6_lasted wsX6_lasted ({ frames := 2, cells := 0, slots := 0, locals := 45 } : Room) [.ref (aaX a), .int b, .int h] (obW G a O) (.int (lastS S b h)) := by
  subst eS
  exact RO.wide (kX6_lasted l G (aaX a) (aaH a) (aaT a) (aaN a) (aaB a) (aaA a) (aaM a) (oh O) (o1 O) (o2 O) (oN O) b h hok) [0, 1, 2, 3, 4, 5, 6, 7, 8, 9, 10, 11, 12, 13, 14, 15, 16, 17] rfl (by decide +kernel)
set_option maxRecDepth 100000 in
set_option maxHeartbeats 4000000 in
theorem oX6_ended (l : Launch) (G : GG) (a : AT) (O : OS) (x : Int32) {S : SC} (eS : oN O = S) (hok : okS S) : RO l G yX6_ended wsX6_ended ({ frames := 3, cells := 0, slots := 0, locals := 67 } : Room) [.ref (aaX a), .int x] (obW G a O) (.int (endS S x)) := by
  subst eS
  exact RO.wide (kX6_ended l G (aaX a) (aaH a) (aaT a) (aaN a) (aaB a) (aaA a) (aaM a) (oh O) (o1 O) (o2 O) (oN O) x hok) [0, 1, 2, 3, 4, 5, 6, 7, 8, 9, 10, 11, 12, 13, 14, 15, 16, 17] rfl (by decide +kernel)
set_option maxRecDepth 100000 in
set_option maxHeartbeats 4000000 in
theorem oX6_lasts (l : Launch) (G : GG) (a : AT) (O : OS) (x v : Int32) {S : SC} (eS : oN O = S) (hok : okS S) : RO l G yX6_lasts wsX6_lasts ({ frames := 2, cells := 0, slots := 0, locals := 43 } : Room) [.ref (aaX a), .int x, .int v] (obW G a O) (.int (lstS S x v)) := by
  subst eS
  exact RO.wide (kX6_lasts l G (aaX a) (aaH a) (aaT a) (aaN a) (aaB a) (aaA a) (aaM a) (oh O) (o1 O) (o2 O) (oN O) x v hok) [0, 1, 2, 3, 4, 5, 6, 7, 8, 9, 10, 11, 12, 13, 14, 15, 16, 17] rfl (by decide +kernel)
set_option maxRecDepth 100000 in
set_option maxHeartbeats 4000000 in
theorem oX6_reason (l : Launch) (G : GG) (a : AT) (O : OS) (x : Int32) {S : SC} (eS : oN O = S) (hok : okS S) : RO l G yX6_reason wsX6_reason ({ frames := 2, cells := 0, slots := 0, locals := 43 } : Room) [.ref (aaX a), .int x] (obW G a O) (.int (rsnS S x)) := by
  subst eS
  exact RO.wide (kX6_reason l G (aaX a) (aaH a) (aaT a) (aaN a) (aaB a) (aaA a) (aaM a) (oh O) (o1 O) (o2 O) (oN O) x hok) [0, 1, 2, 3, 4, 5, 6, 7, 8, 9, 10, 11, 12, 13, 14, 15, 16, 17] rfl (by decide +kernel)
set_option maxRecDepth 100000 in
set_option maxHeartbeats 4000000 in
theorem oX6_count (l : Launch) (G : GG) (a : AT) (O : OS) (w : Int32) {S : SC} (eS : oN O = S) (hok : okS S) : RO l G yX6_count wsX6_count ({ frames := 4, cells := 0, slots := 0, locals := 86 } : Room) [.ref (aaX a), .int w] (obW G a O) (.int (cntT S (oS O) (oL O) w)) := by
  subst eS
  exact RO.wide (kX6_count l G (aaX a) (aaH a) (aaS a) (oS O) (aaT a) (aaQ a) (oL O) (aaN a) (aaB a) (aaA a) (aaM a) (oh O) (o1 O) (o2 O) (of O) (ot O) (oT O) (oN O) w hok) [0, 69, 139, 140, 1, 2, 3, 4, 5, 6, 7, 8, 9, 10, 11, 12, 13, 14, 15, 16, 17] rfl (by decide +kernel)
set_option maxRecDepth 100000 in
set_option maxHeartbeats 4000000 in
theorem oX6_stopped (l : Launch) (G : GG) (a : AT) (O : OS) (w : Int32) {S : SC} (eS : oN O = S) : RO l G yX6_stopped wsX6_stopped ({ frames := 1, cells := 0, slots := 0, locals := 22 } : Room) [.ref (aaX a), .int w] (obW G a O) (.int (stpS (o1 O) (o2 O) w)) := by
  subst eS
  exact RO.wide (kX6_stopped l G (aaX a) (aaH a) (aaT a) (aaN a) (aaB a) (aaA a) (aaM a) (oh O) (o1 O) (o2 O) w) [0] rfl (by decide +kernel)
