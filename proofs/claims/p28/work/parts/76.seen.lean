/-! the law's own words: all that is told, as one number -/
theorem cnt_lt {S : SC} {s n i : Nat} (h : i < 10) : cntT S s n (nI i) = taS S (nI i) := by
  unfold cntT
  rw [if_neg (fun q => ?_), if_neg (fun q => ?_)]
  · have := nI_i (a := i) (b := 11) (by omega) (by omega) q
    omega
  · have := nI_i (a := i) (b := 10) (by omega) (by omega) q
    omega
theorem cnt_1 (S : SC) (s n : Nat) : cntT S s n 1 = nI (sN S) := rfl
def seA (S : SC) : Nat → Int64
  | 0 => 101
  | k + 1 => 31 * seA S k + (taS S (nI k)).toInt64
def seB (S : SC) : Nat → Int64
  | 0 => seA S 10
  | k + 1 => 31 * (31 * seB S k + (trS S (nI (k / 8)) (nI (k % 8))).toInt64) + (atS S (nI (k / 8)) (nI (k % 8))).toInt64
def seC (S : SC) : Nat → Int64
  | 0 => seB S 24
  | k + 1 => 31 * seC S k + (tbS S (nI (k / 7)) (nI (k % 7))).toInt64
def seD (S : SC) : Nat → Int64
  | 0 => seC S 42
  | k + 1 => 31 * (31 * (31 * (31 * seD S k + (tlS S (nI k) 3).toInt64) + (tlS S (nI k) 4).toInt64) + (tlS S (nI k) 5).toInt64) + (tlS S (nI k) 8).toInt64
def seV (S : SC) : Int64 := seD S (sN S)

theorem m_kL_seen_0 : (Cond.constantLong RL 9 (101) : Cond) ∈ wsL_seen := by decide +kernel
theorem m_kL_seen_1 : (Cond.constantLong RL 11 (31) : Cond) ∈ wsL_seen := by decide +kernel
set_option maxRecDepth 100000 in
set_option maxHeartbeats 4000000 in
theorem kL_seen (l : Launch) (G : GG) (a : AT) (O : OS)  (hok : okS (oN O)) : RO l G yL_seen wsL_seen ({ frames := 6, cells := 0, slots := 0, locals := 139 } : Room) [.ref (aaX a)] (obW G a O) (.long (seV (oN O))) := by
  refine RO.of (cc := cL_seen) (maxL := 4) (ret := (some .long)) (by decide) rfl (Nat.le_of_ble_eq_true rfl) ?_
  intro cx hxl hxG C E
  subst hxl
  subst hxG
  show X cx (0, 0) (obW (xG cx) a O) [(0, .ref (aaX a))] 0 []
  have hn : sN (oN O) ≤ 60 := hok.1
  refine x_ldc2 (v := 101) C m_kL_seen_0 dL_seen_0 ?_
  refine x_lstore_n C [(1, .long 101), (0, .ref (aaX a))] dL_seen_3 rfl (by decide) rfl ?_
  refine x_iconst (v := 0) C dL_seen_4 (by decide) ?_
  refine x_istore_n C [(3, .int 0), (1, .long 101), (0, .ref (aaX a))] dL_seen_5 rfl (by decide) rfl ?_
  have ex_6 : X cx (0, 0) (obW (xG cx) a O) [(0, .ref (aaX a)), (1, .long (seA (oN O) 10))] 31 [] := by
    refine x_iconst (v := 0) C dL_seen_31 (by decide) ?_
    refine x_istore_n C [(3, .int 0), (0, .ref (aaX a)), (1, .long (seA (oN O) 10))] dL_seen_32 rfl (by decide) rfl ?_
    have ex_33 : X cx (0, 0) (obW (xG cx) a O) [(0, .ref (aaX a)), (1, .long (seB (oN O) 24))] 83 [] := by
      refine x_iconst (v := 0) C dL_seen_83 (by decide) ?_
      refine x_istore_n C [(3, .int 0), (0, .ref (aaX a)), (1, .long (seB (oN O) 24))] dL_seen_84 rfl (by decide) rfl ?_
      have ex_85 : X cx (0, 0) (obW (xG cx) a O) [(0, .ref (aaX a)), (1, .long (seC (oN O) 42))] 117 [] := by
        refine x_iconst (v := 0) C dL_seen_117 (by decide) ?_
        refine x_istore_n C [(3, .int 0), (0, .ref (aaX a)), (1, .long (seC (oN O) 42))] dL_seen_118 rfl (by decide) rfl ?_
        have ex_119 : X cx (0, 0) (obW (xG cx) a O) [(0, .ref (aaX a)), (1, .long (seD (oN O) (sN (oN O))))] 187 [] := by
          refine x_lload_n C 1 dL_seen_187 rfl rfl ?_
          exact x_lret C E dL_seen_188 (rfl) rfl
        have lp_119 : ∀ (d i : Nat), i + d = sN (oN O) → X cx (0, 0) (obW (xG cx) a O) [(0, .ref (aaX a)), (1, .long (seD (oN O) i)), (3, .int (nI i))] 119 [] := by
          intro d
          induction d with
          | zero =>
            intro i hi
            obtain rfl : i = sN (oN O) := by omega
            refine x_iload_n C 2 dL_seen_119 rfl rfl ?_
            refine x_aload_n C 0 dL_seen_120 rfl rfl ?_
            refine x_iconst (v := 1) C dL_seen_121 (by decide) ?_
            refine x_oRO C ([.int 1]) ([.int (nI (sN (oN O)))]) (a := a) (O := O) (na := 1) gL_seen_X6_count rfl (by decide +kernel) rfl (oX6_count (xl cx) (xG cx) a O 1 (S := oN O) rfl hok) rfl rfl rfl ⟨by decide, by decide⟩ (Nat.le_of_ble_eq_true rfl) ⟨by decide, by decide⟩ dL_seen_122 ?_
            refine x_top (y := nI (sN (oN O))) (cnt_1 _ _ _) ?_
            refine x_icmp_ge C 187 dL_seen_125 (by decide) (fun _ => ?_) (fun c => absurd (nI_le (a := sN (oN O)) (b := sN (oN O)) (by omega) (by omega)) c)
            refine x_lv [(0, .ref (aaX a)), (1, .long (seD (oN O) (sN (oN O))))] [0, 1] rfl ?_
            exact ex_119
          | succ d ih =>
            intro i hi
            refine x_iload_n C 2 dL_seen_119 rfl rfl ?_
            refine x_aload_n C 0 dL_seen_120 rfl rfl ?_
            refine x_iconst (v := 1) C dL_seen_121 (by decide) ?_
            refine x_oRO C ([.int 1]) ([.int (nI i)]) (a := a) (O := O) (na := 1) gL_seen_X6_count rfl (by decide +kernel) rfl (oX6_count (xl cx) (xG cx) a O 1 (S := oN O) rfl hok) rfl rfl rfl ⟨by decide, by decide⟩ (Nat.le_of_ble_eq_true rfl) ⟨by decide, by decide⟩ dL_seen_122 ?_
            refine x_top (y := nI (sN (oN O))) (cnt_1 _ _ _) ?_
            refine x_icmp_ge C 187 dL_seen_125 (by decide) (fun c => absurd c (nI_ge (a := i) (b := sN (oN O)) (by omega) (by omega))) (fun _ => ?_)
            refine x_ldc2 (v := 31) C m_kL_seen_1 dL_seen_128 ?_
            refine x_ldc2 (v := 31) C m_kL_seen_1 dL_seen_131 ?_
            refine x_ldc2 (v := 31) C m_kL_seen_1 dL_seen_134 ?_
            refine x_lload_n C 1 dL_seen_137 rfl rfl ?_
            refine x_lmul C dL_seen_138 ?_
            refine x_aload_n C 0 dL_seen_139 rfl rfl ?_
            refine x_iload_n C 2 dL_seen_140 rfl rfl ?_
            refine x_iconst (v := 3) C dL_seen_141 (by decide) ?_
            refine x_oRO C ([.int (nI i), .int 3]) ([.long (31 * (seD (oN O) i)), .long 31, .long 31]) (a := a) (O := O) (na := 2) gL_seen_X6_lamp rfl (by decide +kernel) rfl (oX6_lamp (xl cx) (xG cx) a O (nI i) 3 (S := oN O) rfl hok) rfl rfl rfl ⟨by decide, by decide⟩ (Nat.le_of_ble_eq_true rfl) ⟨by decide, by decide⟩ dL_seen_142 ?_
            refine x_i2l C dL_seen_145 ?_
            refine x_ladd C dL_seen_146 ?_
            refine x_lmul C dL_seen_147 ?_
            refine x_aload_n C 0 dL_seen_148 rfl rfl ?_
            refine x_iload_n C 2 dL_seen_149 rfl rfl ?_
            refine x_iconst (v := 4) C dL_seen_150 (by decide) ?_
            refine x_oRO C ([.int (nI i), .int 4]) ([.long (31 * ((31 * (seD (oN O) i)) + ((tlS (oN O) (nI i) 3).toInt64))), .long 31]) (a := a) (O := O) (na := 2) gL_seen_X6_lamp rfl (by decide +kernel) rfl (oX6_lamp (xl cx) (xG cx) a O (nI i) 4 (S := oN O) rfl hok) rfl rfl rfl ⟨by decide, by decide⟩ (Nat.le_of_ble_eq_true rfl) ⟨by decide, by decide⟩ dL_seen_151 ?_
            refine x_i2l C dL_seen_154 ?_
            refine x_ladd C dL_seen_155 ?_
            refine x_lmul C dL_seen_156 ?_
            refine x_aload_n C 0 dL_seen_157 rfl rfl ?_
            refine x_iload_n C 2 dL_seen_158 rfl rfl ?_
            refine x_iconst (v := 5) C dL_seen_159 (by decide) ?_
            refine x_oRO C ([.int (nI i), .int 5]) ([.long (31 * ((31 * ((31 * (seD (oN O) i)) + ((tlS (oN O) (nI i) 3).toInt64))) + ((tlS (oN O) (nI i) 4).toInt64)))]) (a := a) (O := O) (na := 2) gL_seen_X6_lamp rfl (by decide +kernel) rfl (oX6_lamp (xl cx) (xG cx) a O (nI i) 5 (S := oN O) rfl hok) rfl rfl rfl ⟨by decide, by decide⟩ (Nat.le_of_ble_eq_true rfl) ⟨by decide, by decide⟩ dL_seen_160 ?_
            refine x_i2l C dL_seen_163 ?_
            refine x_ladd C dL_seen_164 ?_
            refine x_lstore_n C [(1, .long ((31 * ((31 * ((31 * (seD (oN O) i)) + ((tlS (oN O) (nI i) 3).toInt64))) + ((tlS (oN O) (nI i) 4).toInt64))) + ((tlS (oN O) (nI i) 5).toInt64))), (0, .ref (aaX a)), (3, .int (nI i))] dL_seen_165 rfl (by decide) rfl ?_
            refine x_ldc2 (v := 31) C m_kL_seen_1 dL_seen_166 ?_
            refine x_lload_n C 0 dL_seen_169 rfl rfl ?_
            refine x_lmul C dL_seen_170 ?_
            refine x_aload_n C 1 dL_seen_171 rfl rfl ?_
            refine x_iload_n C 2 dL_seen_172 rfl rfl ?_
            refine x_bipush (v := 8) C dL_seen_173 (by decide) ?_
            refine x_oRO C ([.int (nI i), .int 8]) ([.long (31 * ((31 * ((31 * ((31 * (seD (oN O) i)) + ((tlS (oN O) (nI i) 3).toInt64))) + ((tlS (oN O) (nI i) 4).toInt64))) + ((tlS (oN O) (nI i) 5).toInt64)))]) (a := a) (O := O) (na := 2) gL_seen_X6_lamp rfl (by decide +kernel) rfl (oX6_lamp (xl cx) (xG cx) a O (nI i) 8 (S := oN O) rfl hok) rfl rfl rfl ⟨by decide, by decide⟩ (Nat.le_of_ble_eq_true rfl) ⟨by decide, by decide⟩ dL_seen_175 ?_
            refine x_i2l C dL_seen_178 ?_
            refine x_ladd C dL_seen_179 ?_
            refine x_lstore_n C [(1, .long ((31 * ((31 * ((31 * ((31 * (seD (oN O) i)) + ((tlS (oN O) (nI i) 3).toInt64))) + ((tlS (oN O) (nI i) 4).toInt64))) + ((tlS (oN O) (nI i) 5).toInt64))) + ((tlS (oN O) (nI i) 8).toInt64))), (0, .ref (aaX a)), (3, .int (nI i))] dL_seen_180 rfl (by decide) rfl ?_
            refine x_iinc C 2 [(3, .int (nI (i + 1))), (1, .long ((31 * ((31 * ((31 * ((31 * (seD (oN O) i)) + ((tlS (oN O) (nI i) 3).toInt64))) + ((tlS (oN O) (nI i) 4).toInt64))) + ((tlS (oN O) (nI i) 5).toInt64))) + ((tlS (oN O) (nI i) 8).toInt64))), (0, .ref (aaX a))] dL_seen_181 rfl (inc1 i) (by decide) rfl ?_
            refine x_goto (tgt := 119) C dL_seen_184 (by decide) ?_
            refine x_lv [(0, .ref (aaX a)), (1, .long (seD (oN O) (i + 1))), (3, .int (nI (i + 1)))] [2, 1, 0] rfl ?_
            exact ih (i + 1) (by omega)
        refine x_lv [(0, .ref (aaX a)), (1, .long (seD (oN O) 0)), (3, .int (nI 0))] [1, 2, 0] rfl ?_
        exact lp_119 (sN (oN O)) 0 (by omega)
      have lp_85 : ∀ (d i : Nat), i + d = 42 → X cx (0, 0) (obW (xG cx) a O) [(0, .ref (aaX a)), (1, .long (seC (oN O) i)), (3, .int (nI i))] 85 [] := by
        intro d
        induction d with
        | zero =>
          intro i hi
          obtain rfl : i = 42 := by omega
          refine x_iload_n C 2 dL_seen_85 rfl rfl ?_
          refine x_bipush (v := 42) C dL_seen_86 (by decide) ?_
          refine x_icmp_ge C 117 dL_seen_88 (by decide) (fun _ => ?_) (fun c => absurd (nI_le (a := 42) (b := 42) (by omega) (by omega)) c)
          refine x_lv [(0, .ref (aaX a)), (1, .long (seC (oN O) 42))] [0, 1] rfl ?_
          exact ex_85
        | succ d ih =>
          intro i hi
          refine x_iload_n C 2 dL_seen_85 rfl rfl ?_
          refine x_bipush (v := 42) C dL_seen_86 (by decide) ?_
          refine x_icmp_ge C 117 dL_seen_88 (by decide) (fun c => absurd c (nI_ge (a := i) (b := 42) (by omega) (by omega))) (fun _ => ?_)
          refine x_ldc2 (v := 31) C m_kL_seen_1 dL_seen_91 ?_
          refine x_lload_n C 1 dL_seen_94 rfl rfl ?_
          refine x_lmul C dL_seen_95 ?_
          refine x_aload_n C 0 dL_seen_96 rfl rfl ?_
          refine x_iload_n C 2 dL_seen_97 rfl rfl ?_
          refine x_bipush (v := 7) C dL_seen_98 (by decide) ?_
          refine x_idiv C (pk_div (a := i) (d := 7) (by omega) (by omega) (by omega)) dL_seen_100 (by decide) ?_
          refine x_iload_n C 2 dL_seen_101 rfl rfl ?_
          refine x_bipush (v := 7) C dL_seen_102 (by decide) ?_
          refine x_irem C (pk_rem (a := i) (d := 7) (by omega) (by omega) (by omega)) dL_seen_104 (by decide) ?_
          refine x_oRO C ([.int (nI (i / 7)), .int (nI (i % 7))]) ([.long (31 * (seC (oN O) i))]) (a := a) (O := O) (na := 2) gL_seen_X6_batch rfl (by decide +kernel) rfl (oX6_batch (xl cx) (xG cx) a O (nI (i / 7)) (nI (i % 7)) (S := oN O) rfl hok) rfl rfl rfl ⟨by decide, by decide⟩ (Nat.le_of_ble_eq_true rfl) ⟨by decide, by decide⟩ dL_seen_105 ?_
          refine x_i2l C dL_seen_108 ?_
          refine x_ladd C dL_seen_109 ?_
          refine x_lstore_n C [(1, .long ((31 * (seC (oN O) i)) + ((tbS (oN O) (nI (i / 7)) (nI (i % 7))).toInt64))), (0, .ref (aaX a)), (3, .int (nI i))] dL_seen_110 rfl (by decide) rfl ?_
          refine x_iinc C 2 [(3, .int (nI (i + 1))), (1, .long ((31 * (seC (oN O) i)) + ((tbS (oN O) (nI (i / 7)) (nI (i % 7))).toInt64))), (0, .ref (aaX a))] dL_seen_111 rfl (inc1 i) (by decide) rfl ?_
          refine x_goto (tgt := 85) C dL_seen_114 (by decide) ?_
          refine x_lv [(0, .ref (aaX a)), (1, .long (seC (oN O) (i + 1))), (3, .int (nI (i + 1)))] [2, 1, 0] rfl ?_
          exact ih (i + 1) (by omega)
      refine x_lv [(0, .ref (aaX a)), (1, .long (seC (oN O) 0)), (3, .int (nI 0))] [1, 2, 0] rfl ?_
      exact lp_85 42 0 (by omega)
    have lp_33 : ∀ (d i : Nat), i + d = 24 → X cx (0, 0) (obW (xG cx) a O) [(0, .ref (aaX a)), (1, .long (seB (oN O) i)), (3, .int (nI i))] 33 [] := by
      intro d
      induction d with
      | zero =>
        intro i hi
        obtain rfl : i = 24 := by omega
        refine x_iload_n C 2 dL_seen_33 rfl rfl ?_
        refine x_bipush (v := 24) C dL_seen_34 (by decide) ?_
        refine x_icmp_ge C 83 dL_seen_36 (by decide) (fun _ => ?_) (fun c => absurd (nI_le (a := 24) (b := 24) (by omega) (by omega)) c)
        refine x_lv [(0, .ref (aaX a)), (1, .long (seB (oN O) 24))] [0, 1] rfl ?_
        exact ex_33
      | succ d ih =>
        intro i hi
        refine x_iload_n C 2 dL_seen_33 rfl rfl ?_
        refine x_bipush (v := 24) C dL_seen_34 (by decide) ?_
        refine x_icmp_ge C 83 dL_seen_36 (by decide) (fun c => absurd c (nI_ge (a := i) (b := 24) (by omega) (by omega))) (fun _ => ?_)
        refine x_ldc2 (v := 31) C m_kL_seen_1 dL_seen_39 ?_
        refine x_ldc2 (v := 31) C m_kL_seen_1 dL_seen_42 ?_
        refine x_lload_n C 1 dL_seen_45 rfl rfl ?_
        refine x_lmul C dL_seen_46 ?_
        refine x_aload_n C 0 dL_seen_47 rfl rfl ?_
        refine x_iload_n C 2 dL_seen_48 rfl rfl ?_
        refine x_bipush (v := 8) C dL_seen_49 (by decide) ?_
        refine x_idiv C (pk_div (a := i) (d := 8) (by omega) (by omega) (by omega)) dL_seen_51 (by decide) ?_
        refine x_iload_n C 2 dL_seen_52 rfl rfl ?_
        refine x_bipush (v := 8) C dL_seen_53 (by decide) ?_
        refine x_irem C (pk_rem (a := i) (d := 8) (by omega) (by omega) (by omega)) dL_seen_55 (by decide) ?_
        refine x_oRO C ([.int (nI (i / 8)), .int (nI (i % 8))]) ([.long (31 * (seB (oN O) i)), .long 31]) (a := a) (O := O) (na := 2) gL_seen_X6_rack rfl (by decide +kernel) rfl (oX6_rack (xl cx) (xG cx) a O (nI (i / 8)) (nI (i % 8)) (S := oN O) rfl hok) rfl rfl rfl ⟨by decide, by decide⟩ (Nat.le_of_ble_eq_true rfl) ⟨by decide, by decide⟩ dL_seen_56 ?_
        refine x_i2l C dL_seen_59 ?_
        refine x_ladd C dL_seen_60 ?_
        refine x_lmul C dL_seen_61 ?_
        refine x_aload_n C 0 dL_seen_62 rfl rfl ?_
        refine x_iload_n C 2 dL_seen_63 rfl rfl ?_
        refine x_bipush (v := 8) C dL_seen_64 (by decide) ?_
        refine x_idiv C (pk_div (a := i) (d := 8) (by omega) (by omega) (by omega)) dL_seen_66 (by decide) ?_
        refine x_iload_n C 2 dL_seen_67 rfl rfl ?_
        refine x_bipush (v := 8) C dL_seen_68 (by decide) ?_
        refine x_irem C (pk_rem (a := i) (d := 8) (by omega) (by omega) (by omega)) dL_seen_70 (by decide) ?_
        refine x_oRO C ([.int (nI (i / 8)), .int (nI (i % 8))]) ([.long (31 * ((31 * (seB (oN O) i)) + ((trS (oN O) (nI (i / 8)) (nI (i % 8))).toInt64)))]) (a := a) (O := O) (na := 2) gL_seen_X6_at rfl (by decide +kernel) rfl (oX6_at (xl cx) (xG cx) a O (nI (i / 8)) (nI (i % 8)) (S := oN O) rfl hok) rfl rfl rfl ⟨by decide, by decide⟩ (Nat.le_of_ble_eq_true rfl) ⟨by decide, by decide⟩ dL_seen_71 ?_
        refine x_i2l C dL_seen_74 ?_
        refine x_ladd C dL_seen_75 ?_
        refine x_lstore_n C [(1, .long ((31 * ((31 * (seB (oN O) i)) + ((trS (oN O) (nI (i / 8)) (nI (i % 8))).toInt64))) + ((atS (oN O) (nI (i / 8)) (nI (i % 8))).toInt64))), (0, .ref (aaX a)), (3, .int (nI i))] dL_seen_76 rfl (by decide) rfl ?_
        refine x_iinc C 2 [(3, .int (nI (i + 1))), (1, .long ((31 * ((31 * (seB (oN O) i)) + ((trS (oN O) (nI (i / 8)) (nI (i % 8))).toInt64))) + ((atS (oN O) (nI (i / 8)) (nI (i % 8))).toInt64))), (0, .ref (aaX a))] dL_seen_77 rfl (inc1 i) (by decide) rfl ?_
        refine x_goto (tgt := 33) C dL_seen_80 (by decide) ?_
        refine x_lv [(0, .ref (aaX a)), (1, .long (seB (oN O) (i + 1))), (3, .int (nI (i + 1)))] [2, 1, 0] rfl ?_
        exact ih (i + 1) (by omega)
    refine x_lv [(0, .ref (aaX a)), (1, .long (seB (oN O) 0)), (3, .int (nI 0))] [1, 2, 0] rfl ?_
    exact lp_33 24 0 (by omega)
  have lp_6 : ∀ (d i : Nat), i + d = 10 → X cx (0, 0) (obW (xG cx) a O) [(0, .ref (aaX a)), (1, .long (seA (oN O) i)), (3, .int (nI i))] 6 [] := by
    intro d
    induction d with
    | zero =>
      intro i hi
      obtain rfl : i = 10 := by omega
      refine x_iload_n C 2 dL_seen_6 rfl rfl ?_
      refine x_bipush (v := 10) C dL_seen_7 (by decide) ?_
      refine x_icmp_ge C 31 dL_seen_9 (by decide) (fun _ => ?_) (fun c => absurd (nI_le (a := 10) (b := 10) (by omega) (by omega)) c)
      refine x_lv [(0, .ref (aaX a)), (1, .long (seA (oN O) 10))] [0, 1] rfl ?_
      exact ex_6
    | succ d ih =>
      intro i hi
      refine x_iload_n C 2 dL_seen_6 rfl rfl ?_
      refine x_bipush (v := 10) C dL_seen_7 (by decide) ?_
      refine x_icmp_ge C 31 dL_seen_9 (by decide) (fun c => absurd c (nI_ge (a := i) (b := 10) (by omega) (by omega))) (fun _ => ?_)
      refine x_ldc2 (v := 31) C m_kL_seen_1 dL_seen_12 ?_
      refine x_lload_n C 1 dL_seen_15 rfl rfl ?_
      refine x_lmul C dL_seen_16 ?_
      refine x_aload_n C 0 dL_seen_17 rfl rfl ?_
      refine x_iload_n C 2 dL_seen_18 rfl rfl ?_
      refine x_oRO C ([.int (nI i)]) ([.long (31 * (seA (oN O) i))]) (a := a) (O := O) (na := 1) gL_seen_X6_count rfl (by decide +kernel) rfl (oX6_count (xl cx) (xG cx) a O (nI i) (S := oN O) rfl hok) rfl rfl rfl ⟨by decide, by decide⟩ (Nat.le_of_ble_eq_true rfl) ⟨by decide, by decide⟩ dL_seen_19 ?_
      refine x_top (y := taS (oN O) (nI i)) (cnt_lt (by omega)) ?_
      refine x_i2l C dL_seen_22 ?_
      refine x_ladd C dL_seen_23 ?_
      refine x_lstore_n C [(1, .long ((31 * (seA (oN O) i)) + ((taS (oN O) (nI i)).toInt64))), (0, .ref (aaX a)), (3, .int (nI i))] dL_seen_24 rfl (by decide) rfl ?_
      refine x_iinc C 2 [(3, .int (nI (i + 1))), (1, .long ((31 * (seA (oN O) i)) + ((taS (oN O) (nI i)).toInt64))), (0, .ref (aaX a))] dL_seen_25 rfl (inc1 i) (by decide) rfl ?_
      refine x_goto (tgt := 6) C dL_seen_28 (by decide) ?_
      refine x_lv [(0, .ref (aaX a)), (1, .long (seA (oN O) (i + 1))), (3, .int (nI (i + 1)))] [2, 1, 0] rfl ?_
      exact ih (i + 1) (by omega)
  refine x_lv [(0, .ref (aaX a)), (1, .long (seA (oN O) 0)), (3, .int (nI 0))] [2, 1, 0] rfl ?_
  exact lp_6 10 0 (by omega)
