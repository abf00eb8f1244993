def nxS (s : Nat) : Nat := if s < 4 then s + 1 else 4
def nxK (s k : Nat) : Nat := if s < 4 then k else (k + 1) % 4
/-- the history: how many states, where the oldest lies, the four places -/
abbrev hsW (G : GG) (h0 hs : Nat) (ad : Nat → Nat → Nat) (s k : Nat) (P : Nat → SC) : va_W := [(h0, .inr (1, [.int (nI s), .ref hs])), (hs, .inl (G.2.2.2, 4, .inr (.inr (.inr (.inr (rot ad k))))))] ++ (stW G (ad 0) (P 0) ++ (stW G (ad 1) (P 1) ++ (stW G (ad 2) (P 2) ++ stW G (ad 3) (P 3))))
set_option maxRecDepth 100000 in
set_option maxHeartbeats 4000000 in
theorem kX1_append (l : Launch) (G : GG) (h0 hs : Nat) (ad : Nat → Nat → Nat) (P : Nat → SC) (o : Nat → Nat) (B : SC) (k s : Nat) (hk : k < 4) (hs4 : s ≤ 4) : MU l G yX1_append wsX1_append ({ frames := 4, cells := 0, slots := 0, locals := 81 } : Room) [.ref h0, .ref (o 0)] (hsW G h0 hs ad s k P ++ stW G o B) none (hsW G h0 hs ad (nxS s) (nxK s k) (va_up P ((s + k) % 4) B) ++ stW G o B) := by
  have h1 : k = 0 ∨ k = 1 ∨ k = 2 ∨ k = 3 := by omega
  have h2 : s = 0 ∨ s = 1 ∨ s = 2 ∨ s = 3 ∨ s = 4 := by omega
  rcases h1 with rfl | rfl | rfl | rfl
  · rcases h2 with rfl | rfl | rfl | rfl | rfl
    · exact kX1_append_0_0 l G h0 hs ad P o B
    · exact kX1_append_0_1 l G h0 hs ad P o B
    · exact kX1_append_0_2 l G h0 hs ad P o B
    · exact kX1_append_0_3 l G h0 hs ad P o B
    · exact kX1_append_0_4 l G h0 hs ad P o B
  · rcases h2 with rfl | rfl | rfl | rfl | rfl
    · exact kX1_append_1_0 l G h0 hs ad P o B
    · exact kX1_append_1_1 l G h0 hs ad P o B
    · exact kX1_append_1_2 l G h0 hs ad P o B
    · exact kX1_append_1_3 l G h0 hs ad P o B
    · exact kX1_append_1_4 l G h0 hs ad P o B
  · rcases h2 with rfl | rfl | rfl | rfl | rfl
    · exact kX1_append_2_0 l G h0 hs ad P o B
    · exact kX1_append_2_1 l G h0 hs ad P o B
    · exact kX1_append_2_2 l G h0 hs ad P o B
    · exact kX1_append_2_3 l G h0 hs ad P o B
    · exact kX1_append_2_4 l G h0 hs ad P o B
  · rcases h2 with rfl | rfl | rfl | rfl | rfl
    · exact kX1_append_3_0 l G h0 hs ad P o B
    · exact kX1_append_3_1 l G h0 hs ad P o B
    · exact kX1_append_3_2 l G h0 hs ad P o B
    · exact kX1_append_3_3 l G h0 hs ad P o B
    · exact kX1_append_3_4 l G h0 hs ad P o B
set_option maxRecDepth 100000 in
set_option maxHeartbeats 4000000 in
theorem kX1_moveLatestTo (l : Launch) (G : GG) (h0 hs : Nat) (ad : Nat → Nat → Nat) (P : Nat → SC) (o : Nat → Nat) (B : SC) (k s : Nat) (hk : k < 4) (hs4 : s < 4) : MU l G yX1_moveLatestTo wsX1_moveLatestTo ({ frames := 4, cells := 0, slots := 0, locals := 81 } : Room) [.ref h0, .ref (o 0)] (hsW G h0 hs ad (s + 1) k P ++ stW G o B) none (hsW G h0 hs ad s k P ++ stW G o (P ((s + k) % 4))) := by
  have h1 : k = 0 ∨ k = 1 ∨ k = 2 ∨ k = 3 := by omega
  have h2 : s = 0 ∨ s = 1 ∨ s = 2 ∨ s = 3 := by omega
  rcases h1 with rfl | rfl | rfl | rfl
  · rcases h2 with rfl | rfl | rfl | rfl
    · exact kX1_moveLatestTo_0_1 l G h0 hs ad P o B
    · exact kX1_moveLatestTo_0_2 l G h0 hs ad P o B
    · exact kX1_moveLatestTo_0_3 l G h0 hs ad P o B
    · exact kX1_moveLatestTo_0_4 l G h0 hs ad P o B
  · rcases h2 with rfl | rfl | rfl | rfl
    · exact kX1_moveLatestTo_1_1 l G h0 hs ad P o B
    · exact kX1_moveLatestTo_1_2 l G h0 hs ad P o B
    · exact kX1_moveLatestTo_1_3 l G h0 hs ad P o B
    · exact kX1_moveLatestTo_1_4 l G h0 hs ad P o B
  · rcases h2 with rfl | rfl | rfl | rfl
    · exact kX1_moveLatestTo_2_1 l G h0 hs ad P o B
    · exact kX1_moveLatestTo_2_2 l G h0 hs ad P o B
    · exact kX1_moveLatestTo_2_3 l G h0 hs ad P o B
    · exact kX1_moveLatestTo_2_4 l G h0 hs ad P o B
  · rcases h2 with rfl | rfl | rfl | rfl
    · exact kX1_moveLatestTo_3_1 l G h0 hs ad P o B
    · exact kX1_moveLatestTo_3_2 l G h0 hs ad P o B
    · exact kX1_moveLatestTo_3_3 l G h0 hs ad P o B
    · exact kX1_moveLatestTo_3_4 l G h0 hs ad P o B
