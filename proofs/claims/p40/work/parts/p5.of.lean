set_option maxRecDepth 100000 in
set_option maxHeartbeats 4000000 in
theorem c_X10_ofTwo {Z : GZ} {l : Launch} {L : List TC} {i a k nm ot : Nat} {oa ob : Option Nat} {x y : Int32} (hi : L[i]? = some (a, k, nm, ot, oa, ob)) (hk : hasC k = true) (hk2 : (k ≤ 12 ∨ 20 ≤ k) ∧ k ≤ 31 ∧ ¬ k = 27 ∧ ¬ k = 28) : Ct Z l yX10_ofTwo cX10_ofTwo 3 (some .int) (rmK 0) [.ref a, .int x, .int y] (wPl Z L) (fun v w => v = some (.int (twN k x y)) ∧ w = wPl Z L) := by
  have hks : k = 7 ∨ k = 8 ∨ k = 9 ∨ k = 10 ∨ k = 11 ∨ k = 12 ∨ k = 20 ∨ k = 21 ∨ k = 22 ∨ k = 23 ∨ k = 24 ∨ k = 30 ∨ k = 31 := by
    unfold hasC at hk
    simp at hk
    omega
  rcases hks with rfl | rfl | rfl | rfl | rfl | rfl | rfl | rfl | rfl | rfl | rfl | rfl | rfl
  · refine Ct.ofJ (own := RX10) (nm := "ofTwo") (lv0 := [(0, .ref a), (1, .int x), (2, .int y)]) (by decide) rfl rfl (Nat.le_of_ble_eq_true rfl) rfl (fun X hXl C E => ?_)
    subst hXl
    refine J_room (rc2 := 0) (rs2 := 0) (Nat.le_refl _) (Nat.le_refl _) ?_
    refine J_aload_n C iX10_ofTwo_0 rfl rfl ?_
    refine J_get (.int 7) (([]).length + i) C iX10_ofTwo_1 gf_X10_7 (mid_at (A := []) (M := wPl Z L) (B := []) (by simp only [List.append_assoc, List.append_nil, List.nil_append]) (wPl_at hi)) rfl ?_
    refine J_tabIn 116 C iX10_ofTwo_4 (by decide) (by decide) rfl rfl ?_
    refine J_iload_n C iX10_ofTwo_116 rfl rfl ?_
    refine J_iload_n C iX10_ofTwo_117 rfl rfl ?_
    refine J_iadd C iX10_ofTwo_118 ?_
    exact J_iret C E iX10_ofTwo_119 ⟨rfl, rfl⟩
  · refine Ct.ofJ (own := RX10) (nm := "ofTwo") (lv0 := [(0, .ref a), (1, .int x), (2, .int y)]) (by decide) rfl rfl (Nat.le_of_ble_eq_true rfl) rfl (fun X hXl C E => ?_)
    subst hXl
    refine J_room (rc2 := 0) (rs2 := 0) (Nat.le_refl _) (Nat.le_refl _) ?_
    refine J_aload_n C iX10_ofTwo_0 rfl rfl ?_
    refine J_get (.int 8) (([]).length + i) C iX10_ofTwo_1 gf_X10_7 (mid_at (A := []) (M := wPl Z L) (B := []) (by simp only [List.append_assoc, List.append_nil, List.nil_append]) (wPl_at hi)) rfl ?_
    refine J_tabIn 120 C iX10_ofTwo_4 (by decide) (by decide) rfl rfl ?_
    refine J_iload_n C iX10_ofTwo_120 rfl rfl ?_
    refine J_iload_n C iX10_ofTwo_121 rfl rfl ?_
    refine J_isub C iX10_ofTwo_122 ?_
    exact J_iret C E iX10_ofTwo_123 ⟨rfl, rfl⟩
  · refine Ct.ofJ (own := RX10) (nm := "ofTwo") (lv0 := [(0, .ref a), (1, .int x), (2, .int y)]) (by decide) rfl rfl (Nat.le_of_ble_eq_true rfl) rfl (fun X hXl C E => ?_)
    subst hXl
    refine J_room (rc2 := 0) (rs2 := 0) (Nat.le_refl _) (Nat.le_refl _) ?_
    refine J_aload_n C iX10_ofTwo_0 rfl rfl ?_
    refine J_get (.int 9) (([]).length + i) C iX10_ofTwo_1 gf_X10_7 (mid_at (A := []) (M := wPl Z L) (B := []) (by simp only [List.append_assoc, List.append_nil, List.nil_append]) (wPl_at hi)) rfl ?_
    refine J_tabIn 124 C iX10_ofTwo_4 (by decide) (by decide) rfl rfl ?_
    refine J_iload_n C iX10_ofTwo_124 rfl rfl ?_
    refine J_iload_n C iX10_ofTwo_125 rfl rfl ?_
    refine J_imul C iX10_ofTwo_126 ?_
    exact J_iret C E iX10_ofTwo_127 ⟨rfl, rfl⟩
  · refine Ct.ofJ (own := RX10) (nm := "ofTwo") (lv0 := [(0, .ref a), (1, .int x), (2, .int y)]) (by decide) rfl rfl (Nat.le_of_ble_eq_true rfl) rfl (fun X hXl C E => ?_)
    subst hXl
    refine J_room (rc2 := 0) (rs2 := 0) (Nat.le_refl _) (Nat.le_refl _) ?_
    refine J_aload_n C iX10_ofTwo_0 rfl rfl ?_
    refine J_get (.int 10) (([]).length + i) C iX10_ofTwo_1 gf_X10_7 (mid_at (A := []) (M := wPl Z L) (B := []) (by simp only [List.append_assoc, List.append_nil, List.nil_append]) (wPl_at hi)) rfl ?_
    refine J_tabIn 128 C iX10_ofTwo_4 (by decide) (by decide) rfl rfl ?_
    refine J_iload_n C iX10_ofTwo_128 rfl rfl ?_
    refine J_ifne 136 C iX10_ofTwo_129 rfl (fun h129 => ?_) (fun h129 => ?_)
    · refine J_iload_n C iX10_ofTwo_136 rfl rfl ?_
      refine J_iconst (-1) C iX10_ofTwo_137 rfl ?_
      refine J_icmpne 146 C iX10_ofTwo_138 rfl (fun h138 => ?_) (fun h138 => ?_)
      · refine J_iload_n C iX10_ofTwo_146 rfl rfl ?_
        refine J_iload_n C iX10_ofTwo_147 rfl rfl ?_
        refine J_idiv C iX10_ofTwo_148 h129 ?_
        exact J_iret C E iX10_ofTwo_149 ⟨congrArg (fun z => some (Value.int z)) (show (x / y : Int32) = (if y = 0 then 0 else if y = -1 then -x else x / y) by rw [if_neg h129, if_neg h138]), rfl⟩
      · refine J_iload_n C iX10_ofTwo_141 rfl rfl ?_
        refine J_ineg C iX10_ofTwo_142 ?_
        refine J_goto 149 C iX10_ofTwo_143 rfl ?_
        exact J_iret C E iX10_ofTwo_149 ⟨congrArg (fun z => some (Value.int z)) (show (-x : Int32) = (if y = 0 then 0 else if y = -1 then -x else x / y) by rw [if_neg h129, if_pos h138]), rfl⟩
    · refine J_iconst 0 C iX10_ofTwo_132 rfl ?_
      refine J_goto 149 C iX10_ofTwo_133 rfl ?_
      exact J_iret C E iX10_ofTwo_149 ⟨congrArg (fun z => some (Value.int z)) (show (0 : Int32) = (if y = 0 then 0 else if y = -1 then -x else x / y) by rw [if_pos h129]), rfl⟩
  · refine Ct.ofJ (own := RX10) (nm := "ofTwo") (lv0 := [(0, .ref a), (1, .int x), (2, .int y)]) (by decide) rfl rfl (Nat.le_of_ble_eq_true rfl) rfl (fun X hXl C E => ?_)
    subst hXl
    refine J_room (rc2 := 0) (rs2 := 0) (Nat.le_refl _) (Nat.le_refl _) ?_
    refine J_aload_n C iX10_ofTwo_0 rfl rfl ?_
    refine J_get (.int 11) (([]).length + i) C iX10_ofTwo_1 gf_X10_7 (mid_at (A := []) (M := wPl Z L) (B := []) (by simp only [List.append_assoc, List.append_nil, List.nil_append]) (wPl_at hi)) rfl ?_
    refine J_tabIn 150 C iX10_ofTwo_4 (by decide) (by decide) rfl rfl ?_
    refine J_iload_n C iX10_ofTwo_150 rfl rfl ?_
    refine J_iload_n C iX10_ofTwo_151 rfl rfl ?_
    refine J_icmpge 159 C iX10_ofTwo_152 rfl (fun h152 => ?_) (fun h152 => ?_)
    · refine J_iload_n C iX10_ofTwo_159 rfl rfl ?_
      exact J_iret C E iX10_ofTwo_160 ⟨congrArg (fun z => some (Value.int z)) (show (y : Int32) = (if x < y then x else y) by rw [if_neg (Int32.not_lt.mpr h152)]), rfl⟩
    · refine J_iload_n C iX10_ofTwo_155 rfl rfl ?_
      refine J_goto 160 C iX10_ofTwo_156 rfl ?_
      exact J_iret C E iX10_ofTwo_160 ⟨congrArg (fun z => some (Value.int z)) (show (x : Int32) = (if x < y then x else y) by rw [if_pos (Int32.not_le.mp h152)]), rfl⟩
  · refine Ct.ofJ (own := RX10) (nm := "ofTwo") (lv0 := [(0, .ref a), (1, .int x), (2, .int y)]) (by decide) rfl rfl (Nat.le_of_ble_eq_true rfl) rfl (fun X hXl C E => ?_)
    subst hXl
    refine J_room (rc2 := 0) (rs2 := 0) (Nat.le_refl _) (Nat.le_refl _) ?_
    refine J_aload_n C iX10_ofTwo_0 rfl rfl ?_
    refine J_get (.int 12) (([]).length + i) C iX10_ofTwo_1 gf_X10_7 (mid_at (A := []) (M := wPl Z L) (B := []) (by simp only [List.append_assoc, List.append_nil, List.nil_append]) (wPl_at hi)) rfl ?_
    refine J_tabIn 161 C iX10_ofTwo_4 (by decide) (by decide) rfl rfl ?_
    refine J_iload_n C iX10_ofTwo_161 rfl rfl ?_
    refine J_iload_n C iX10_ofTwo_162 rfl rfl ?_
    refine J_icmpge 170 C iX10_ofTwo_163 rfl (fun h163 => ?_) (fun h163 => ?_)
    · refine J_iload_n C iX10_ofTwo_170 rfl rfl ?_
      exact J_iret C E iX10_ofTwo_171 ⟨congrArg (fun z => some (Value.int z)) (show (x : Int32) = (if x < y then y else x) by rw [if_neg (Int32.not_lt.mpr h163)]), rfl⟩
    · refine J_iload_n C iX10_ofTwo_166 rfl rfl ?_
      refine J_goto 171 C iX10_ofTwo_167 rfl ?_
      exact J_iret C E iX10_ofTwo_171 ⟨congrArg (fun z => some (Value.int z)) (show (y : Int32) = (if x < y then y else x) by rw [if_pos (Int32.not_le.mp h163)]), rfl⟩
  · refine Ct.ofJ (own := RX10) (nm := "ofTwo") (lv0 := [(0, .ref a), (1, .int x), (2, .int y)]) (by decide) rfl rfl (Nat.le_of_ble_eq_true rfl) rfl (fun X hXl C E => ?_)
    subst hXl
    refine J_room (rc2 := 0) (rs2 := 0) (Nat.le_refl _) (Nat.le_refl _) ?_
    refine J_aload_n C iX10_ofTwo_0 rfl rfl ?_
    refine J_get (.int 20) (([]).length + i) C iX10_ofTwo_1 gf_X10_7 (mid_at (A := []) (M := wPl Z L) (B := []) (by simp only [List.append_assoc, List.append_nil, List.nil_append]) (wPl_at hi)) rfl ?_
    refine J_tabIn 172 C iX10_ofTwo_4 (by decide) (by decide) rfl rfl ?_
    refine J_iload_n C iX10_ofTwo_172 rfl rfl ?_
    refine J_iload_n C iX10_ofTwo_173 rfl rfl ?_
    refine J_icmpge 181 C iX10_ofTwo_174 rfl (fun h174 => ?_) (fun h174 => ?_)
    · refine J_iconst 0 C iX10_ofTwo_181 rfl ?_
      exact J_iret C E iX10_ofTwo_182 ⟨congrArg (fun z => some (Value.int z)) (show (0 : Int32) = (if x < y then 1 else 0) by rw [if_neg (Int32.not_lt.mpr h174)]), rfl⟩
    · refine J_iconst 1 C iX10_ofTwo_177 rfl ?_
      refine J_goto 182 C iX10_ofTwo_178 rfl ?_
      exact J_iret C E iX10_ofTwo_182 ⟨congrArg (fun z => some (Value.int z)) (show (1 : Int32) = (if x < y then 1 else 0) by rw [if_pos (Int32.not_le.mp h174)]), rfl⟩
  · refine Ct.ofJ (own := RX10) (nm := "ofTwo") (lv0 := [(0, .ref a), (1, .int x), (2, .int y)]) (by decide) rfl rfl (Nat.le_of_ble_eq_true rfl) rfl (fun X hXl C E => ?_)
    subst hXl
    refine J_room (rc2 := 0) (rs2 := 0) (Nat.le_refl _) (Nat.le_refl _) ?_
    refine J_aload_n C iX10_ofTwo_0 rfl rfl ?_
    refine J_get (.int 21) (([]).length + i) C iX10_ofTwo_1 gf_X10_7 (mid_at (A := []) (M := wPl Z L) (B := []) (by simp only [List.append_assoc, List.append_nil, List.nil_append]) (wPl_at hi)) rfl ?_
    refine J_tabIn 183 C iX10_ofTwo_4 (by decide) (by decide) rfl rfl ?_
    refine J_iload_n C iX10_ofTwo_183 rfl rfl ?_
    refine J_iload_n C iX10_ofTwo_184 rfl rfl ?_
    refine J_icmple 192 C iX10_ofTwo_185 rfl (fun h185 => ?_) (fun h185 => ?_)
    · refine J_iconst 0 C iX10_ofTwo_192 rfl ?_
      exact J_iret C E iX10_ofTwo_193 ⟨congrArg (fun z => some (Value.int z)) (show (0 : Int32) = (if x ≤ y then 0 else 1) by rw [if_pos h185]), rfl⟩
    · refine J_iconst 1 C iX10_ofTwo_188 rfl ?_
      refine J_goto 193 C iX10_ofTwo_189 rfl ?_
      exact J_iret C E iX10_ofTwo_193 ⟨congrArg (fun z => some (Value.int z)) (show (1 : Int32) = (if x ≤ y then 0 else 1) by rw [if_neg h185]), rfl⟩
  · refine Ct.ofJ (own := RX10) (nm := "ofTwo") (lv0 := [(0, .ref a), (1, .int x), (2, .int y)]) (by decide) rfl rfl (Nat.le_of_ble_eq_true rfl) rfl (fun X hXl C E => ?_)
    subst hXl
    refine J_room (rc2 := 0) (rs2 := 0) (Nat.le_refl _) (Nat.le_refl _) ?_
    refine J_aload_n C iX10_ofTwo_0 rfl rfl ?_
    refine J_get (.int 22) (([]).length + i) C iX10_ofTwo_1 gf_X10_7 (mid_at (A := []) (M := wPl Z L) (B := []) (by simp only [List.append_assoc, List.append_nil, List.nil_append]) (wPl_at hi)) rfl ?_
    refine J_tabIn 194 C iX10_ofTwo_4 (by decide) (by decide) rfl rfl ?_
    refine J_iload_n C iX10_ofTwo_194 rfl rfl ?_
    refine J_iload_n C iX10_ofTwo_195 rfl rfl ?_
    refine J_icmpne 203 C iX10_ofTwo_196 rfl (fun h196 => ?_) (fun h196 => ?_)
    · refine J_iconst 0 C iX10_ofTwo_203 rfl ?_
      exact J_iret C E iX10_ofTwo_204 ⟨congrArg (fun z => some (Value.int z)) (show (0 : Int32) = (if x = y then 1 else 0) by rw [if_neg h196]), rfl⟩
    · refine J_iconst 1 C iX10_ofTwo_199 rfl ?_
      refine J_goto 204 C iX10_ofTwo_200 rfl ?_
      exact J_iret C E iX10_ofTwo_204 ⟨congrArg (fun z => some (Value.int z)) (show (1 : Int32) = (if x = y then 1 else 0) by rw [if_pos h196]), rfl⟩
  · refine Ct.ofJ (own := RX10) (nm := "ofTwo") (lv0 := [(0, .ref a), (1, .int x), (2, .int y)]) (by decide) rfl rfl (Nat.le_of_ble_eq_true rfl) rfl (fun X hXl C E => ?_)
    subst hXl
    refine J_room (rc2 := 0) (rs2 := 0) (Nat.le_refl _) (Nat.le_refl _) ?_
    refine J_aload_n C iX10_ofTwo_0 rfl rfl ?_
    refine J_get (.int 23) (([]).length + i) C iX10_ofTwo_1 gf_X10_7 (mid_at (A := []) (M := wPl Z L) (B := []) (by simp only [List.append_assoc, List.append_nil, List.nil_append]) (wPl_at hi)) rfl ?_
    refine J_tabIn 205 C iX10_ofTwo_4 (by decide) (by decide) rfl rfl ?_
    refine J_iload_n C iX10_ofTwo_205 rfl rfl ?_
    refine J_iload_n C iX10_ofTwo_206 rfl rfl ?_
    refine J_icmple 214 C iX10_ofTwo_207 rfl (fun h207 => ?_) (fun h207 => ?_)
    · refine J_iconst 1 C iX10_ofTwo_214 rfl ?_
      exact J_iret C E iX10_ofTwo_215 ⟨congrArg (fun z => some (Value.int z)) (show (1 : Int32) = (if x ≤ y then 1 else 0) by rw [if_pos h207]), rfl⟩
    · refine J_iconst 0 C iX10_ofTwo_210 rfl ?_
      refine J_goto 215 C iX10_ofTwo_211 rfl ?_
      exact J_iret C E iX10_ofTwo_215 ⟨congrArg (fun z => some (Value.int z)) (show (0 : Int32) = (if x ≤ y then 1 else 0) by rw [if_neg h207]), rfl⟩
  · refine Ct.ofJ (own := RX10) (nm := "ofTwo") (lv0 := [(0, .ref a), (1, .int x), (2, .int y)]) (by decide) rfl rfl (Nat.le_of_ble_eq_true rfl) rfl (fun X hXl C E => ?_)
    subst hXl
    refine J_room (rc2 := 0) (rs2 := 0) (Nat.le_refl _) (Nat.le_refl _) ?_
    refine J_aload_n C iX10_ofTwo_0 rfl rfl ?_
    refine J_get (.int 24) (([]).length + i) C iX10_ofTwo_1 gf_X10_7 (mid_at (A := []) (M := wPl Z L) (B := []) (by simp only [List.append_assoc, List.append_nil, List.nil_append]) (wPl_at hi)) rfl ?_
    refine J_tabIn 216 C iX10_ofTwo_4 (by decide) (by decide) rfl rfl ?_
    refine J_iload_n C iX10_ofTwo_216 rfl rfl ?_
    refine J_iload_n C iX10_ofTwo_217 rfl rfl ?_
    refine J_icmpge 225 C iX10_ofTwo_218 rfl (fun h218 => ?_) (fun h218 => ?_)
    · refine J_iconst 1 C iX10_ofTwo_225 rfl ?_
      exact J_iret C E iX10_ofTwo_226 ⟨congrArg (fun z => some (Value.int z)) (show (1 : Int32) = (if x < y then 0 else 1) by rw [if_neg (Int32.not_lt.mpr h218)]), rfl⟩
    · refine J_iconst 0 C iX10_ofTwo_221 rfl ?_
      refine J_goto 226 C iX10_ofTwo_222 rfl ?_
      exact J_iret C E iX10_ofTwo_226 ⟨congrArg (fun z => some (Value.int z)) (show (0 : Int32) = (if x < y then 0 else 1) by rw [if_pos (Int32.not_le.mp h218)]), rfl⟩
  · refine Ct.ofJ (own := RX10) (nm := "ofTwo") (lv0 := [(0, .ref a), (1, .int x), (2, .int y)]) (by decide) rfl rfl (Nat.le_of_ble_eq_true rfl) rfl (fun X hXl C E => ?_)
    subst hXl
    refine J_room (rc2 := 0) (rs2 := 0) (Nat.le_refl _) (Nat.le_refl _) ?_
    refine J_aload_n C iX10_ofTwo_0 rfl rfl ?_
    refine J_get (.int 30) (([]).length + i) C iX10_ofTwo_1 gf_X10_7 (mid_at (A := []) (M := wPl Z L) (B := []) (by simp only [List.append_assoc, List.append_nil, List.nil_append]) (wPl_at hi)) rfl ?_
    refine J_tabIn 227 C iX10_ofTwo_4 (by decide) (by decide) rfl rfl ?_
    refine J_iload_n C iX10_ofTwo_227 rfl rfl ?_
    refine J_iload_n C iX10_ofTwo_228 rfl rfl ?_
    refine J_iadd C iX10_ofTwo_229 ?_
    refine J_iconst 2 C iX10_ofTwo_230 rfl ?_
    refine J_icmpne 238 C iX10_ofTwo_231 rfl (fun h231 => ?_) (fun h231 => ?_)
    · refine J_iconst 0 C iX10_ofTwo_238 rfl ?_
      exact J_iret C E iX10_ofTwo_239 ⟨congrArg (fun z => some (Value.int z)) (show (0 : Int32) = (if x + y = 2 then 1 else 0) by rw [if_neg h231]), rfl⟩
    · refine J_iconst 1 C iX10_ofTwo_234 rfl ?_
      refine J_goto 239 C iX10_ofTwo_235 rfl ?_
      exact J_iret C E iX10_ofTwo_239 ⟨congrArg (fun z => some (Value.int z)) (show (1 : Int32) = (if x + y = 2 then 1 else 0) by rw [if_pos h231]), rfl⟩
  · refine Ct.ofJ (own := RX10) (nm := "ofTwo") (lv0 := [(0, .ref a), (1, .int x), (2, .int y)]) (by decide) rfl rfl (Nat.le_of_ble_eq_true rfl) rfl (fun X hXl C E => ?_)
    subst hXl
    refine J_room (rc2 := 0) (rs2 := 0) (Nat.le_refl _) (Nat.le_refl _) ?_
    refine J_aload_n C iX10_ofTwo_0 rfl rfl ?_
    refine J_get (.int 31) (([]).length + i) C iX10_ofTwo_1 gf_X10_7 (mid_at (A := []) (M := wPl Z L) (B := []) (by simp only [List.append_assoc, List.append_nil, List.nil_append]) (wPl_at hi)) rfl ?_
    refine J_tabOut 240 C iX10_ofTwo_4 (by decide) rfl ?_
    refine J_iload_n C iX10_ofTwo_240 rfl rfl ?_
    refine J_iload_n C iX10_ofTwo_241 rfl rfl ?_
    refine J_iadd C iX10_ofTwo_242 ?_
    refine J_ifle 250 C iX10_ofTwo_243 rfl (fun h243 => ?_) (fun h243 => ?_)
    · refine J_iconst 0 C iX10_ofTwo_250 rfl ?_
      exact J_iret C E iX10_ofTwo_251 ⟨congrArg (fun z => some (Value.int z)) (show (0 : Int32) = (if x + y ≤ 0 then 0 else 1) by rw [if_pos h243]), rfl⟩
    · refine J_iconst 1 C iX10_ofTwo_246 rfl ?_
      refine J_goto 251 C iX10_ofTwo_247 rfl ?_
      exact J_iret C E iX10_ofTwo_251 ⟨congrArg (fun z => some (Value.int z)) (show (1 : Int32) = (if x + y ≤ 0 then 0 else 1) by rw [if_neg h243]), rfl⟩

set_option maxRecDepth 100000 in
set_option maxHeartbeats 4000000 in
theorem c_X10_of {Z : GZ} {l : Launch} {s n m hA lA oA tA eA : Nat} {rw lr p h f t : Nat → Nat} {fo ft fe : Nat → Option Nat} {dy ca : Int32} {L : List TC} (ok : SnOk n p h f t) (hn : 0 < n) : ∀ (fu : Nat) {a : Nat} {q : TN} (hq : InT n L fu a q), Ct Z l yX10_of cX10_of 2 (some .int) (rmK (8 + fu)) [.ref a, .ref s] ((wSim Z s n m hA lA oA tA eA (fun j => some (rw j)) (fun j => some (lr j)) fo ft fe dy ca ++ wRw Z n rw p h f t) ++ wPl Z L) (fun v w => v = some (.int (ofN n dy p h f t fu q)) ∧ w = ((wSim Z s n m hA lA oA tA eA (fun j => some (rw j)) (fun j => some (lr j)) fo ft fe dy ca ++ wRw Z n rw p h f t) ++ wPl Z L)) := by
  have hn12 := ok.1
  intro fu
  induction fu with
  | zero => exact fun hq => absurd hq (by simp [InT])
  | succ fu ih =>
    intro a q hq
    have hkin := kN_in q
    obtain ⟨oa, ob, hm, hbA, hbB⟩ := hq
    obtain ⟨i, hi9⟩ := List.mem_iff_getElem?.mp hm
    clear hm
    have hks : kN q = 0 ∨ kN q = 1 ∨ kN q = 2 ∨ kN q = 3 ∨ kN q = 4 ∨ kN q = 5 ∨ kN q = 6 ∨ kN q = 7 ∨ kN q = 8 ∨ kN q = 9 ∨ kN q = 10 ∨ kN q = 11 ∨ kN q = 12 ∨ kN q = 20 ∨ kN q = 21 ∨ kN q = 22 ∨ kN q = 23 ∨ kN q = 24 ∨ kN q = 25 ∨ kN q = 26 ∨ kN q = 29 ∨ kN q = 30 ∨ kN q = 31 := by omega
    rcases hks with hk | hk | hk | hk | hk | hk | hk | hk | hk | hk | hk | hk | hk | hk | hk | hk | hk | hk | hk | hk | hk | hk | hk
    · rw [hk] at hi9 hbA hbB
      refine Ct.ofJ (own := RX10) (nm := "of") (lv0 := [(0, .ref a), (1, .ref s)]) (by decide) rfl rfl (Nat.le_of_ble_eq_true rfl) rfl (fun X hXl C E => ?_)
      subst hXl
      refine J_room (rc2 := 0) (rs2 := 0) (Nat.le_refl _) (Nat.le_refl _) ?_
      refine J_aload_n C iX10_of_0 rfl rfl ?_
      refine J_get (.int 0) (((wSim Z s n m hA lA oA tA eA (fun j => some (rw j)) (fun j => some (lr j)) fo ft fe dy ca ++ wRw Z n rw p h f t)).length + i) C iX10_of_1 gf_X10_7 (mid_at (A := (wSim Z s n m hA lA oA tA eA (fun j => some (rw j)) (fun j => some (lr j)) fo ft fe dy ca ++ wRw Z n rw p h f t)) (M := wPl Z L) (B := []) (by simp only [List.append_assoc, List.append_nil, List.nil_append]) (wPl_at hi9)) rfl ?_
      refine J_tabIn 140 C iX10_of_4 (by decide) (by decide) rfl rfl ?_
      refine J_aload_n C iX10_of_140 rfl rfl ?_
      refine J_get (.int (nI (nuQ n q))) (((wSim Z s n m hA lA oA tA eA (fun j => some (rw j)) (fun j => some (lr j)) fo ft fe dy ca ++ wRw Z n rw p h f t)).length + i) C iX10_of_141 gf_X10_13 (mid_at (A := (wSim Z s n m hA lA oA tA eA (fun j => some (rw j)) (fun j => some (lr j)) fo ft fe dy ca ++ wRw Z n rw p h f t)) (M := wPl Z L) (B := []) (by simp only [List.append_assoc, List.append_nil, List.nil_append]) (wPl_at hi9)) rfl ?_
      exact J_iret C E iX10_of_144 ⟨congrArg (fun z => some (Value.int z)) (show (nI (nuQ n q) : Int32) = ofN n dy p h f t (fu + 1) q by rw [ofN, if_neg (by omega), if_neg (by omega), if_neg (by rw [hk]; decide), lfN, if_pos hk]), rfl⟩
    · rw [hk] at hi9 hbA hbB
      refine Ct.ofJ (own := RX10) (nm := "of") (lv0 := [(0, .ref a), (1, .ref s)]) (by decide) rfl rfl (Nat.le_of_ble_eq_true rfl) rfl (fun X hXl C E => ?_)
      subst hXl
      refine J_room (rc2 := 0) (rs2 := 0) (Nat.le_refl _) (Nat.le_refl _) ?_
      refine J_aload_n C iX10_of_0 rfl rfl ?_
      refine J_get (.int 1) (((wSim Z s n m hA lA oA tA eA (fun j => some (rw j)) (fun j => some (lr j)) fo ft fe dy ca ++ wRw Z n rw p h f t)).length + i) C iX10_of_1 gf_X10_7 (mid_at (A := (wSim Z s n m hA lA oA tA eA (fun j => some (rw j)) (fun j => some (lr j)) fo ft fe dy ca ++ wRw Z n rw p h f t)) (M := wPl Z L) (B := []) (by simp only [List.append_assoc, List.append_nil, List.nil_append]) (wPl_at hi9)) rfl ?_
      refine J_tabIn 145 C iX10_of_4 (by decide) (by decide) rfl rfl ?_
      refine J_aload_n C iX10_of_145 rfl rfl ?_
      refine J_get (.int dy) 0 C iX10_of_146 gf_X10_16 rfl rfl ?_
      exact J_iret C E iX10_of_149 ⟨congrArg (fun z => some (Value.int z)) (show (dy : Int32) = ofN n dy p h f t (fu + 1) q by rw [ofN, if_neg (by omega), if_neg (by omega), if_neg (by rw [hk]; decide), lfN, if_neg (by omega), if_pos hk]), rfl⟩
    · rw [hk] at hi9 hbA hbB
      refine Ct.ofJ (own := RX10) (nm := "of") (lv0 := [(0, .ref a), (1, .ref s)]) (by decide) rfl rfl (Nat.le_of_ble_eq_true rfl) rfl (fun X hXl C E => ?_)
      subst hXl
      refine J_room (rc2 := 0) (rs2 := 0) (Nat.le_refl _) (Nat.le_refl _) ?_
      refine J_aload_n C iX10_of_0 rfl rfl ?_
      refine J_get (.int 2) (((wSim Z s n m hA lA oA tA eA (fun j => some (rw j)) (fun j => some (lr j)) fo ft fe dy ca ++ wRw Z n rw p h f t)).length + i) C iX10_of_1 gf_X10_7 (mid_at (A := (wSim Z s n m hA lA oA tA eA (fun j => some (rw j)) (fun j => some (lr j)) fo ft fe dy ca ++ wRw Z n rw p h f t)) (M := wPl Z L) (B := []) (by simp only [List.append_assoc, List.append_nil, List.nil_append]) (wPl_at hi9)) rfl ?_
      refine J_tabIn 150 C iX10_of_4 (by decide) (by decide) rfl rfl ?_
      refine J_aload_n C iX10_of_150 rfl rfl ?_
      refine J_cVb (As := []) (st := []) (rc2 := 0) (rs2 := 0) (w0 := (wSim Z s n m hA lA oA tA eA (fun j => some (rw j)) (fun j => some (lr j)) fo ft fe dy ca ++ wRw Z n rw p h f t)) (q0 := 0) C iX10_of_151 lm_X10_21 yc_X9_worst yv_X9_worst (c_X9_worst ok) rfl rfl rfl [] (wPl Z L) (by simp only [List.append_assoc, List.append_nil, List.nil_append]) rfl (rmK_le (by omega) (by decide)) (Nat.le_of_ble_eq_true rfl) (Nat.zero_add _).symm (Nat.zero_add _).symm ?_
      rintro _ _ ⟨rfl, rfl⟩
      refine J_st (.int (nI (mxN (fun a => loN p h f t n a) n)) :: []) rfl ?_
      refine J_ws ((wSim Z s n m hA lA oA tA eA (fun j => some (rw j)) (fun j => some (lr j)) fo ft fe dy ca ++ wRw Z n rw p h f t) ++ wPl Z L) (by simp only [List.append_assoc, List.append_nil, List.nil_append]) ?_
      exact J_iret C E iX10_of_154 ⟨congrArg (fun z => some (Value.int z)) (show (nI (mxN (fun a => loN p h f t n a) n) : Int32) = ofN n dy p h f t (fu + 1) q by rw [ofN, if_neg (by omega), if_neg (by omega), if_neg (by rw [hk]; decide), lfN, if_neg (by omega), if_neg (by omega), if_pos hk]), rfl⟩
    · rw [hk] at hi9 hbA hbB
      have hnm := nm_lt hn (q := q) (by omega)
      refine Ct.ofJ (own := RX10) (nm := "of") (lv0 := [(0, .ref a), (1, .ref s)]) (by decide) rfl rfl (Nat.le_of_ble_eq_true rfl) rfl (fun X hXl C E => ?_)
      subst hXl
      refine J_room (rc2 := 0) (rs2 := 0) (Nat.le_refl _) (Nat.le_refl _) ?_
      refine J_aload_n C iX10_of_0 rfl rfl ?_
      refine J_get (.int 3) (((wSim Z s n m hA lA oA tA eA (fun j => some (rw j)) (fun j => some (lr j)) fo ft fe dy ca ++ wRw Z n rw p h f t)).length + i) C iX10_of_1 gf_X10_7 (mid_at (A := (wSim Z s n m hA lA oA tA eA (fun j => some (rw j)) (fun j => some (lr j)) fo ft fe dy ca ++ wRw Z n rw p h f t)) (M := wPl Z L) (B := []) (by simp only [List.append_assoc, List.append_nil, List.nil_append]) (wPl_at hi9)) rfl ?_
      refine J_tabIn 155 C iX10_of_4 (by decide) (by decide) rfl rfl ?_
      refine J_aload_n C iX10_of_155 rfl rfl ?_
      refine J_aload_n C iX10_of_156 rfl rfl ?_
      refine J_get (.int (nI (nuQ n q))) (((wSim Z s n m hA lA oA tA eA (fun j => some (rw j)) (fun j => some (lr j)) fo ft fe dy ca ++ wRw Z n rw p h f t)).length + i) C iX10_of_157 gf_X10_13 (mid_at (A := (wSim Z s n m hA lA oA tA eA (fun j => some (rw j)) (fun j => some (lr j)) fo ft fe dy ca ++ wRw Z n rw p h f t)) (M := wPl Z L) (B := []) (by simp only [List.append_assoc, List.append_nil, List.nil_append]) (wPl_at hi9)) rfl ?_
      refine J_cVb (As := [.int (nI (nuQ n q))]) (st := []) (rc2 := 0) (rs2 := 0) (w0 := (wSim Z s n m hA lA oA tA eA (fun j => some (rw j)) (fun j => some (lr j)) fo ft fe dy ca ++ wRw Z n rw p h f t)) (q0 := 0) C iX10_of_160 lm_X10_25 yc_X9_lost yv_X9_lost (c_X9_lost (a := (nuQ n q)) ok (by omega)) rfl rfl rfl [] (wPl Z L) (by simp only [List.append_assoc, List.append_nil, List.nil_append]) rfl (rmK_le (by omega) (by decide)) (Nat.le_of_ble_eq_true rfl) (Nat.zero_add _).symm (Nat.zero_add _).symm ?_
      rintro _ _ ⟨rfl, rfl⟩
      refine J_st (.int (nI (loN p h f t n (nuQ n q))) :: []) rfl ?_
      refine J_ws ((wSim Z s n m hA lA oA tA eA (fun j => some (rw j)) (fun j => some (lr j)) fo ft fe dy ca ++ wRw Z n rw p h f t) ++ wPl Z L) (by simp only [List.append_assoc, List.append_nil, List.nil_append]) ?_
      exact J_iret C E iX10_of_163 ⟨congrArg (fun z => some (Value.int z)) (show (nI (loN p h f t n (nuQ n q)) : Int32) = ofN n dy p h f t (fu + 1) q by rw [ofN, if_neg (by omega), if_neg (by omega), if_neg (by rw [hk]; decide), lfN, if_neg (by omega), if_neg (by omega), if_neg (by omega), if_pos hk]), rfl⟩
    · rw [hk] at hi9 hbA hbB
      have hnm := nm_lt hn (q := q) (by omega)
      refine Ct.ofJ (own := RX10) (nm := "of") (lv0 := [(0, .ref a), (1, .ref s)]) (by decide) rfl rfl (Nat.le_of_ble_eq_true rfl) rfl (fun X hXl C E => ?_)
      subst hXl
      refine J_room (rc2 := 0) (rs2 := 0) (Nat.le_refl _) (Nat.le_refl _) ?_
      refine J_aload_n C iX10_of_0 rfl rfl ?_
      refine J_get (.int 4) (((wSim Z s n m hA lA oA tA eA (fun j => some (rw j)) (fun j => some (lr j)) fo ft fe dy ca ++ wRw Z n rw p h f t)).length + i) C iX10_of_1 gf_X10_7 (mid_at (A := (wSim Z s n m hA lA oA tA eA (fun j => some (rw j)) (fun j => some (lr j)) fo ft fe dy ca ++ wRw Z n rw p h f t)) (M := wPl Z L) (B := []) (by simp only [List.append_assoc, List.append_nil, List.nil_append]) (wPl_at hi9)) rfl ?_
      refine J_tabIn 164 C iX10_of_4 (by decide) (by decide) rfl rfl ?_
      refine J_aload_n C iX10_of_164 rfl rfl ?_
      refine J_aload_n C iX10_of_165 rfl rfl ?_
      refine J_get (.int (nI (nuQ n q))) (((wSim Z s n m hA lA oA tA eA (fun j => some (rw j)) (fun j => some (lr j)) fo ft fe dy ca ++ wRw Z n rw p h f t)).length + i) C iX10_of_166 gf_X10_13 (mid_at (A := (wSim Z s n m hA lA oA tA eA (fun j => some (rw j)) (fun j => some (lr j)) fo ft fe dy ca ++ wRw Z n rw p h f t)) (M := wPl Z L) (B := []) (by simp only [List.append_assoc, List.append_nil, List.nil_append]) (wPl_at hi9)) rfl ?_
      refine J_cVb (As := [.int (nI (nuQ n q))]) (st := []) (rc2 := 0) (rs2 := 0) (w0 := (wSim Z s n m hA lA oA tA eA (fun j => some (rw j)) (fun j => some (lr j)) fo ft fe dy ca ++ wRw Z n rw p h f t)) (q0 := 0) C iX10_of_169 lm_X10_29 yc_X9_cast yv_X9_cast (c_X9_cast (b := (nuQ n q)) ok (by omega)) rfl rfl rfl [] (wPl Z L) (by simp only [List.append_assoc, List.append_nil, List.nil_append]) rfl (rmK_le (by omega) (by decide)) (Nat.le_of_ble_eq_true rfl) (Nat.zero_add _).symm (Nat.zero_add _).symm ?_
      rintro _ _ ⟨rfl, rfl⟩
      refine J_st (.int (nI (caN p h f t n (nuQ n q))) :: []) rfl ?_
      refine J_ws ((wSim Z s n m hA lA oA tA eA (fun j => some (rw j)) (fun j => some (lr j)) fo ft fe dy ca ++ wRw Z n rw p h f t) ++ wPl Z L) (by simp only [List.append_assoc, List.append_nil, List.nil_append]) ?_
      exact J_iret C E iX10_of_172 ⟨congrArg (fun z => some (Value.int z)) (show (nI (caN p h f t n (nuQ n q)) : Int32) = ofN n dy p h f t (fu + 1) q by rw [ofN, if_neg (by omega), if_neg (by omega), if_neg (by rw [hk]; decide), lfN, if_neg (by omega), if_neg (by omega), if_neg (by omega), if_neg (by omega), if_pos hk]), rfl⟩
    · rw [hk] at hi9 hbA hbB
      have hnm := nm_lt hn (q := q) (by omega)
      refine Ct.ofJ (own := RX10) (nm := "of") (lv0 := [(0, .ref a), (1, .ref s)]) (by decide) rfl rfl (Nat.le_of_ble_eq_true rfl) rfl (fun X hXl C E => ?_)
      subst hXl
      refine J_room (rc2 := 0) (rs2 := 0) (Nat.le_refl _) (Nat.le_refl _) ?_
      refine J_aload_n C iX10_of_0 rfl rfl ?_
      refine J_get (.int 5) (((wSim Z s n m hA lA oA tA eA (fun j => some (rw j)) (fun j => some (lr j)) fo ft fe dy ca ++ wRw Z n rw p h f t)).length + i) C iX10_of_1 gf_X10_7 (mid_at (A := (wSim Z s n m hA lA oA tA eA (fun j => some (rw j)) (fun j => some (lr j)) fo ft fe dy ca ++ wRw Z n rw p h f t)) (M := wPl Z L) (B := []) (by simp only [List.append_assoc, List.append_nil, List.nil_append]) (wPl_at hi9)) rfl ?_
      refine J_tabIn 173 C iX10_of_4 (by decide) (by decide) rfl rfl ?_
      refine J_aload_n C iX10_of_173 rfl rfl ?_
      refine J_get (.ref hA) 0 C iX10_of_174 gf_X10_32 rfl rfl ?_
      refine J_aload_n C iX10_of_177 rfl rfl ?_
      refine J_get (.int (nI (nuQ n q))) (((wSim Z s n m hA lA oA tA eA (fun j => some (rw j)) (fun j => some (lr j)) fo ft fe dy ca ++ wRw Z n rw p h f t)).length + i) C iX10_of_178 gf_X10_13 (mid_at (A := (wSim Z s n m hA lA oA tA eA (fun j => some (rw j)) (fun j => some (lr j)) fo ft fe dy ca ++ wRw Z n rw p h f t)) (M := wPl Z L) (B := []) (by simp only [List.append_assoc, List.append_nil, List.nil_append]) (wPl_at hi9)) rfl ?_
      refine J_aaldA 1 C iX10_of_181 rfl (vp_in_nI (n := nuQ n q) (by omega) (by omega)) ?_
      rw [nI_clamp (n := (nuQ n q)) (by omega)]
      refine J_st (.ref (rw (nuQ n q)) :: []) rfl ?_
      refine J_iconst 1 C iX10_of_182 rfl ?_
      refine J_iald (n := 4) (f := rowF p h f t (nuQ n q)) (((wSim Z s n m hA lA oA tA eA (fun j => some (rw j)) (fun j => some (lr j)) fo ft fe dy ca)).length + (nuQ n q)) C iX10_of_183 (mid_at (A := (wSim Z s n m hA lA oA tA eA (fun j => some (rw j)) (fun j => some (lr j)) fo ft fe dy ca)) (M := wRw Z n rw p h f t) (B := (wPl Z L)) (by simp only [List.append_assoc, List.append_nil, List.nil_append]) (wRw_at hnm)) (vp_in_nI (n := 1) (by decide) (by decide)) ?_
      refine J_st (.int (nI (h (nuQ n q))) :: []) rfl ?_
      exact J_iret C E iX10_of_184 ⟨congrArg (fun z => some (Value.int z)) (show (nI (h (nuQ n q)) : Int32) = ofN n dy p h f t (fu + 1) q by rw [ofN, if_neg (by omega), if_neg (by omega), if_neg (by rw [hk]; decide), lfN, if_neg (by omega), if_neg (by omega), if_neg (by omega), if_neg (by omega), if_neg (by omega), if_pos hk]), rfl⟩
    · rw [hk] at hi9 hbA hbB
      have hnm := nm_lt hn (q := q) (by omega)
      obtain ⟨xa, rfl, hxa⟩ := hbA rfl
      refine Ct.ofJ (own := RX10) (nm := "of") (lv0 := [(0, .ref a), (1, .ref s)]) (by decide) rfl rfl (Nat.le_of_ble_eq_true rfl) rfl (fun X hXl C E => ?_)
      subst hXl
      refine J_room (rc2 := 0) (rs2 := 0) (Nat.le_refl _) (Nat.le_refl _) ?_
      refine J_aload_n C iX10_of_0 rfl rfl ?_
      refine J_get (.int 6) (((wSim Z s n m hA lA oA tA eA (fun j => some (rw j)) (fun j => some (lr j)) fo ft fe dy ca ++ wRw Z n rw p h f t)).length + i) C iX10_of_1 gf_X10_7 (mid_at (A := (wSim Z s n m hA lA oA tA eA (fun j => some (rw j)) (fun j => some (lr j)) fo ft fe dy ca ++ wRw Z n rw p h f t)) (M := wPl Z L) (B := []) (by simp only [List.append_assoc, List.append_nil, List.nil_append]) (wPl_at hi9)) rfl ?_
      refine J_tabIn 185 C iX10_of_4 (by decide) (by decide) rfl rfl ?_
      refine J_aload_n C iX10_of_185 rfl rfl ?_
      refine J_get (.ref xa) (((wSim Z s n m hA lA oA tA eA (fun j => some (rw j)) (fun j => some (lr j)) fo ft fe dy ca ++ wRw Z n rw p h f t)).length + i) C iX10_of_186 gf_X10_36 (mid_at (A := (wSim Z s n m hA lA oA tA eA (fun j => some (rw j)) (fun j => some (lr j)) fo ft fe dy ca ++ wRw Z n rw p h f t)) (M := wPl Z L) (B := []) (by simp only [List.append_assoc, List.append_nil, List.nil_append]) (wPl_at hi9)) rfl ?_
      refine J_aload_n C iX10_of_189 rfl rfl ?_
      obtain ⟨j1, e1, f1⟩ := InT.at hxa
      refine J_cVb (As := [.ref s]) (st := []) (rc2 := 0) (rs2 := 0) (w0 := ((wSim Z s n m hA lA oA tA eA (fun j => some (rw j)) (fun j => some (lr j)) fo ft fe dy ca ++ wRw Z n rw p h f t) ++ wPl Z L)) (q0 := ((wSim Z s n m hA lA oA tA eA (fun j => some (rw j)) (fun j => some (lr j)) fo ft fe dy ca ++ wRw Z n rw p h f t)).length + j1) C iX10_of_190 lm_X10_40 yc_X10_of yv_X10_of (ih (q := kdA q) hxa) rfl rfl (mid_at (A := (wSim Z s n m hA lA oA tA eA (fun j => some (rw j)) (fun j => some (lr j)) fo ft fe dy ca ++ wRw Z n rw p h f t)) (M := wPl Z L) (B := []) (by simp only [List.append_assoc, List.append_nil, List.nil_append]) (wPl_at f1)) [] [] (by simp only [List.append_assoc, List.append_nil, List.nil_append]) rfl (rmK_le (by omega) (by decide)) (Nat.le_of_ble_eq_true rfl) (Nat.zero_add _).symm (Nat.zero_add _).symm ?_
      rintro _ _ ⟨rfl, rfl⟩
      refine J_st (.int (ofN n dy p h f t fu (kdA q)) :: []) rfl ?_
      refine J_ws ((wSim Z s n m hA lA oA tA eA (fun j => some (rw j)) (fun j => some (lr j)) fo ft fe dy ca ++ wRw Z n rw p h f t) ++ wPl Z L) (by simp only [List.append_assoc, List.append_nil, List.nil_append]) ?_
      refine J_ineg C iX10_of_193 ?_
      exact J_iret C E iX10_of_194 ⟨congrArg (fun z => some (Value.int z)) (show (-(ofN n dy p h f t fu (kdA q)) : Int32) = ofN n dy p h f t (fu + 1) q by rw [ofN, if_pos hk]), rfl⟩
    · rw [hk] at hi9 hbA hbB
      have hnm := nm_lt hn (q := q) (by omega)
      obtain ⟨xa, rfl, hxa⟩ := hbA rfl
      obtain ⟨xb, rfl, hxb⟩ := hbB rfl
      refine Ct.ofJ (own := RX10) (nm := "of") (lv0 := [(0, .ref a), (1, .ref s)]) (by decide) rfl rfl (Nat.le_of_ble_eq_true rfl) rfl (fun X hXl C E => ?_)
      subst hXl
      refine J_room (rc2 := 0) (rs2 := 0) (Nat.le_refl _) (Nat.le_refl _) ?_
      refine J_aload_n C iX10_of_0 rfl rfl ?_
      refine J_get (.int 7) (((wSim Z s n m hA lA oA tA eA (fun j => some (rw j)) (fun j => some (lr j)) fo ft fe dy ca ++ wRw Z n rw p h f t)).length + i) C iX10_of_1 gf_X10_7 (mid_at (A := (wSim Z s n m hA lA oA tA eA (fun j => some (rw j)) (fun j => some (lr j)) fo ft fe dy ca ++ wRw Z n rw p h f t)) (M := wPl Z L) (B := []) (by simp only [List.append_assoc, List.append_nil, List.nil_append]) (wPl_at hi9)) rfl ?_
      refine J_tabIn 244 C iX10_of_4 (by decide) (by decide) rfl rfl ?_
      refine J_aload_n C iX10_of_244 rfl rfl ?_
      refine J_aload_n C iX10_of_245 rfl rfl ?_
      refine J_get (.ref xa) (((wSim Z s n m hA lA oA tA eA (fun j => some (rw j)) (fun j => some (lr j)) fo ft fe dy ca ++ wRw Z n rw p h f t)).length + i) C iX10_of_246 gf_X10_36 (mid_at (A := (wSim Z s n m hA lA oA tA eA (fun j => some (rw j)) (fun j => some (lr j)) fo ft fe dy ca ++ wRw Z n rw p h f t)) (M := wPl Z L) (B := []) (by simp only [List.append_assoc, List.append_nil, List.nil_append]) (wPl_at hi9)) rfl ?_
      refine J_aload_n C iX10_of_249 rfl rfl ?_
      obtain ⟨j1, e1, f1⟩ := InT.at hxa
      refine J_cVb (As := [.ref s]) (st := .ref a :: []) (rc2 := 0) (rs2 := 0) (w0 := ((wSim Z s n m hA lA oA tA eA (fun j => some (rw j)) (fun j => some (lr j)) fo ft fe dy ca ++ wRw Z n rw p h f t) ++ wPl Z L)) (q0 := ((wSim Z s n m hA lA oA tA eA (fun j => some (rw j)) (fun j => some (lr j)) fo ft fe dy ca ++ wRw Z n rw p h f t)).length + j1) C iX10_of_250 lm_X10_40 yc_X10_of yv_X10_of (ih (q := kdA q) hxa) rfl rfl (mid_at (A := (wSim Z s n m hA lA oA tA eA (fun j => some (rw j)) (fun j => some (lr j)) fo ft fe dy ca ++ wRw Z n rw p h f t)) (M := wPl Z L) (B := []) (by simp only [List.append_assoc, List.append_nil, List.nil_append]) (wPl_at f1)) [] [] (by simp only [List.append_assoc, List.append_nil, List.nil_append]) rfl (rmK_le (by omega) (by decide)) (Nat.le_of_ble_eq_true rfl) (Nat.zero_add _).symm (Nat.zero_add _).symm ?_
      rintro _ _ ⟨rfl, rfl⟩
      refine J_st (.int (ofN n dy p h f t fu (kdA q)) :: .ref a :: []) rfl ?_
      refine J_ws ((wSim Z s n m hA lA oA tA eA (fun j => some (rw j)) (fun j => some (lr j)) fo ft fe dy ca ++ wRw Z n rw p h f t) ++ wPl Z L) (by simp only [List.append_assoc, List.append_nil, List.nil_append]) ?_
      refine J_aload_n C iX10_of_253 rfl rfl ?_
      refine J_get (.ref xb) (((wSim Z s n m hA lA oA tA eA (fun j => some (rw j)) (fun j => some (lr j)) fo ft fe dy ca ++ wRw Z n rw p h f t)).length + i) C iX10_of_254 gf_X10_51 (mid_at (A := (wSim Z s n m hA lA oA tA eA (fun j => some (rw j)) (fun j => some (lr j)) fo ft fe dy ca ++ wRw Z n rw p h f t)) (M := wPl Z L) (B := []) (by simp only [List.append_assoc, List.append_nil, List.nil_append]) (wPl_at hi9)) rfl ?_
      refine J_aload_n C iX10_of_257 rfl rfl ?_
      obtain ⟨j2, e2, f2⟩ := InT.at hxb
      refine J_cVb (As := [.ref s]) (st := .int (ofN n dy p h f t fu (kdA q)) :: .ref a :: []) (rc2 := 0) (rs2 := 0) (w0 := ((wSim Z s n m hA lA oA tA eA (fun j => some (rw j)) (fun j => some (lr j)) fo ft fe dy ca ++ wRw Z n rw p h f t) ++ wPl Z L)) (q0 := ((wSim Z s n m hA lA oA tA eA (fun j => some (rw j)) (fun j => some (lr j)) fo ft fe dy ca ++ wRw Z n rw p h f t)).length + j2) C iX10_of_258 lm_X10_40 yc_X10_of yv_X10_of (ih (q := kdB q) hxb) rfl rfl (mid_at (A := (wSim Z s n m hA lA oA tA eA (fun j => some (rw j)) (fun j => some (lr j)) fo ft fe dy ca ++ wRw Z n rw p h f t)) (M := wPl Z L) (B := []) (by simp only [List.append_assoc, List.append_nil, List.nil_append]) (wPl_at f2)) [] [] (by simp only [List.append_assoc, List.append_nil, List.nil_append]) rfl (rmK_le (by omega) (by decide)) (Nat.le_of_ble_eq_true rfl) (Nat.zero_add _).symm (Nat.zero_add _).symm ?_
      rintro _ _ ⟨rfl, rfl⟩
      refine J_st (.int (ofN n dy p h f t fu (kdB q)) :: .int (ofN n dy p h f t fu (kdA q)) :: .ref a :: []) rfl ?_
      refine J_ws ((wSim Z s n m hA lA oA tA eA (fun j => some (rw j)) (fun j => some (lr j)) fo ft fe dy ca ++ wRw Z n rw p h f t) ++ wPl Z L) (by simp only [List.append_assoc, List.append_nil, List.nil_append]) ?_
      refine J_cVb (As := [.int (ofN n dy p h f t fu (kdA q)), .int (ofN n dy p h f t fu (kdB q))]) (st := []) (rc2 := 0) (rs2 := 0) (w0 := (wPl Z L)) (q0 := i) C iX10_of_261 lm_X10_54 yc_X10_ofTwo yv_X10_ofTwo (c_X10_ofTwo (i := i) (x := ofN n dy p h f t fu (kdA q)) (y := ofN n dy p h f t fu (kdB q)) hi9 (by decide) (by decide)) rfl rfl (wPl_at hi9) (wSim Z s n m hA lA oA tA eA (fun j => some (rw j)) (fun j => some (lr j)) fo ft fe dy ca ++ wRw Z n rw p h f t) [] (by simp only [List.append_assoc, List.append_nil, List.nil_append]) rfl (rmK_le (by omega) (by decide)) (Nat.le_of_ble_eq_true rfl) (Nat.zero_add _).symm (Nat.zero_add _).symm ?_
      rintro _ _ ⟨rfl, rfl⟩
      refine J_st (.int (twN 7 (ofN n dy p h f t fu (kdA q)) (ofN n dy p h f t fu (kdB q))) :: []) rfl ?_
      refine J_ws ((wSim Z s n m hA lA oA tA eA (fun j => some (rw j)) (fun j => some (lr j)) fo ft fe dy ca ++ wRw Z n rw p h f t) ++ wPl Z L) (by simp only [List.append_assoc, List.append_nil, List.nil_append]) ?_
      exact J_iret C E iX10_of_264 ⟨congrArg (fun z => some (Value.int z)) (show (twN 7 (ofN n dy p h f t fu (kdA q)) (ofN n dy p h f t fu (kdB q)) : Int32) = ofN n dy p h f t (fu + 1) q by rw [ofN, if_neg (by omega), if_neg (by omega), if_pos (by rw [hk]; rfl), hk]), rfl⟩
    · rw [hk] at hi9 hbA hbB
      have hnm := nm_lt hn (q := q) (by omega)
      obtain ⟨xa, rfl, hxa⟩ := hbA rfl
      obtain ⟨xb, rfl, hxb⟩ := hbB rfl
      refine Ct.ofJ (own := RX10) (nm := "of") (lv0 := [(0, .ref a), (1, .ref s)]) (by decide) rfl rfl (Nat.le_of_ble_eq_true rfl) rfl (fun X hXl C E => ?_)
      subst hXl
      refine J_room (rc2 := 0) (rs2 := 0) (Nat.le_refl _) (Nat.le_refl _) ?_
      refine J_aload_n C iX10_of_0 rfl rfl ?_
      refine J_get (.int 8) (((wSim Z s n m hA lA oA tA eA (fun j => some (rw j)) (fun j => some (lr j)) fo ft fe dy ca ++ wRw Z n rw p h f t)).length + i) C iX10_of_1 gf_X10_7 (mid_at (A := (wSim Z s n m hA lA oA tA eA (fun j => some (rw j)) (fun j => some (lr j)) fo ft fe dy ca ++ wRw Z n rw p h f t)) (M := wPl Z L) (B := []) (by simp only [List.append_assoc, List.append_nil, List.nil_append]) (wPl_at hi9)) rfl ?_
      refine J_tabIn 244 C iX10_of_4 (by decide) (by decide) rfl rfl ?_
      refine J_aload_n C iX10_of_244 rfl rfl ?_
      refine J_aload_n C iX10_of_245 rfl rfl ?_
      refine J_get (.ref xa) (((wSim Z s n m hA lA oA tA eA (fun j => some (rw j)) (fun j => some (lr j)) fo ft fe dy ca ++ wRw Z n rw p h f t)).length + i) C iX10_of_246 gf_X10_36 (mid_at (A := (wSim Z s n m hA lA oA tA eA (fun j => some (rw j)) (fun j => some (lr j)) fo ft fe dy ca ++ wRw Z n rw p h f t)) (M := wPl Z L) (B := []) (by simp only [List.append_assoc, List.append_nil, List.nil_append]) (wPl_at hi9)) rfl ?_
      refine J_aload_n C iX10_of_249 rfl rfl ?_
      obtain ⟨j1, e1, f1⟩ := InT.at hxa
      refine J_cVb (As := [.ref s]) (st := .ref a :: []) (rc2 := 0) (rs2 := 0) (w0 := ((wSim Z s n m hA lA oA tA eA (fun j => some (rw j)) (fun j => some (lr j)) fo ft fe dy ca ++ wRw Z n rw p h f t) ++ wPl Z L)) (q0 := ((wSim Z s n m hA lA oA tA eA (fun j => some (rw j)) (fun j => some (lr j)) fo ft fe dy ca ++ wRw Z n rw p h f t)).length + j1) C iX10_of_250 lm_X10_40 yc_X10_of yv_X10_of (ih (q := kdA q) hxa) rfl rfl (mid_at (A := (wSim Z s n m hA lA oA tA eA (fun j => some (rw j)) (fun j => some (lr j)) fo ft fe dy ca ++ wRw Z n rw p h f t)) (M := wPl Z L) (B := []) (by simp only [List.append_assoc, List.append_nil, List.nil_append]) (wPl_at f1)) [] [] (by simp only [List.append_assoc, List.append_nil, List.nil_append]) rfl (rmK_le (by omega) (by decide)) (Nat.le_of_ble_eq_true rfl) (Nat.zero_add _).symm (Nat.zero_add _).symm ?_
      rintro _ _ ⟨rfl, rfl⟩
      refine J_st (.int (ofN n dy p h f t fu (kdA q)) :: .ref a :: []) rfl ?_
      refine J_ws ((wSim Z s n m hA lA oA tA eA (fun j => some (rw j)) (fun j => some (lr j)) fo ft fe dy ca ++ wRw Z n rw p h f t) ++ wPl Z L) (by simp only [List.append_assoc, List.append_nil, List.nil_append]) ?_
      refine J_aload_n C iX10_of_253 rfl rfl ?_
      refine J_get (.ref xb) (((wSim Z s n m hA lA oA tA eA (fun j => some (rw j)) (fun j => some (lr j)) fo ft fe dy ca ++ wRw Z n rw p h f t)).length + i) C iX10_of_254 gf_X10_51 (mid_at (A := (wSim Z s n m hA lA oA tA eA (fun j => some (rw j)) (fun j => some (lr j)) fo ft fe dy ca ++ wRw Z n rw p h f t)) (M := wPl Z L) (B := []) (by simp only [List.append_assoc, List.append_nil, List.nil_append]) (wPl_at hi9)) rfl ?_
      refine J_aload_n C iX10_of_257 rfl rfl ?_
      obtain ⟨j2, e2, f2⟩ := InT.at hxb
      refine J_cVb (As := [.ref s]) (st := .int (ofN n dy p h f t fu (kdA q)) :: .ref a :: []) (rc2 := 0) (rs2 := 0) (w0 := ((wSim Z s n m hA lA oA tA eA (fun j => some (rw j)) (fun j => some (lr j)) fo ft fe dy ca ++ wRw Z n rw p h f t) ++ wPl Z L)) (q0 := ((wSim Z s n m hA lA oA tA eA (fun j => some (rw j)) (fun j => some (lr j)) fo ft fe dy ca ++ wRw Z n rw p h f t)).length + j2) C iX10_of_258 lm_X10_40 yc_X10_of yv_X10_of (ih (q := kdB q) hxb) rfl rfl (mid_at (A := (wSim Z s n m hA lA oA tA eA (fun j => some (rw j)) (fun j => some (lr j)) fo ft fe dy ca ++ wRw Z n rw p h f t)) (M := wPl Z L) (B := []) (by simp only [List.append_assoc, List.append_nil, List.nil_append]) (wPl_at f2)) [] [] (by simp only [List.append_assoc, List.append_nil, List.nil_append]) rfl (rmK_le (by omega) (by decide)) (Nat.le_of_ble_eq_true rfl) (Nat.zero_add _).symm (Nat.zero_add _).symm ?_
      rintro _ _ ⟨rfl, rfl⟩
      refine J_st (.int (ofN n dy p h f t fu (kdB q)) :: .int (ofN n dy p h f t fu (kdA q)) :: .ref a :: []) rfl ?_
      refine J_ws ((wSim Z s n m hA lA oA tA eA (fun j => some (rw j)) (fun j => some (lr j)) fo ft fe dy ca ++ wRw Z n rw p h f t) ++ wPl Z L) (by simp only [List.append_assoc, List.append_nil, List.nil_append]) ?_
      refine J_cVb (As := [.int (ofN n dy p h f t fu (kdA q)), .int (ofN n dy p h f t fu (kdB q))]) (st := []) (rc2 := 0) (rs2 := 0) (w0 := (wPl Z L)) (q0 := i) C iX10_of_261 lm_X10_54 yc_X10_ofTwo yv_X10_ofTwo (c_X10_ofTwo (i := i) (x := ofN n dy p h f t fu (kdA q)) (y := ofN n dy p h f t fu (kdB q)) hi9 (by decide) (by decide)) rfl rfl (wPl_at hi9) (wSim Z s n m hA lA oA tA eA (fun j => some (rw j)) (fun j => some (lr j)) fo ft fe dy ca ++ wRw Z n rw p h f t) [] (by simp only [List.append_assoc, List.append_nil, List.nil_append]) rfl (rmK_le (by omega) (by decide)) (Nat.le_of_ble_eq_true rfl) (Nat.zero_add _).symm (Nat.zero_add _).symm ?_
      rintro _ _ ⟨rfl, rfl⟩
      refine J_st (.int (twN 8 (ofN n dy p h f t fu (kdA q)) (ofN n dy p h f t fu (kdB q))) :: []) rfl ?_
      refine J_ws ((wSim Z s n m hA lA oA tA eA (fun j => some (rw j)) (fun j => some (lr j)) fo ft fe dy ca ++ wRw Z n rw p h f t) ++ wPl Z L) (by simp only [List.append_assoc, List.append_nil, List.nil_append]) ?_
      exact J_iret C E iX10_of_264 ⟨congrArg (fun z => some (Value.int z)) (show (twN 8 (ofN n dy p h f t fu (kdA q)) (ofN n dy p h f t fu (kdB q)) : Int32) = ofN n dy p h f t (fu + 1) q by rw [ofN, if_neg (by omega), if_neg (by omega), if_pos (by rw [hk]; rfl), hk]), rfl⟩
    · rw [hk] at hi9 hbA hbB
      have hnm := nm_lt hn (q := q) (by omega)
      obtain ⟨xa, rfl, hxa⟩ := hbA rfl
      obtain ⟨xb, rfl, hxb⟩ := hbB rfl
      refine Ct.ofJ (own := RX10) (nm := "of") (lv0 := [(0, .ref a), (1, .ref s)]) (by decide) rfl rfl (Nat.le_of_ble_eq_true rfl) rfl (fun X hXl C E => ?_)
      subst hXl
      refine J_room (rc2 := 0) (rs2 := 0) (Nat.le_refl _) (Nat.le_refl _) ?_
      refine J_aload_n C iX10_of_0 rfl rfl ?_
      refine J_get (.int 9) (((wSim Z s n m hA lA oA tA eA (fun j => some (rw j)) (fun j => some (lr j)) fo ft fe dy ca ++ wRw Z n rw p h f t)).length + i) C iX10_of_1 gf_X10_7 (mid_at (A := (wSim Z s n m hA lA oA tA eA (fun j => some (rw j)) (fun j => some (lr j)) fo ft fe dy ca ++ wRw Z n rw p h f t)) (M := wPl Z L) (B := []) (by simp only [List.append_assoc, List.append_nil, List.nil_append]) (wPl_at hi9)) rfl ?_
      refine J_tabIn 244 C iX10_of_4 (by decide) (by decide) rfl rfl ?_
      refine J_aload_n C iX10_of_244 rfl rfl ?_
      refine J_aload_n C iX10_of_245 rfl rfl ?_
      refine J_get (.ref xa) (((wSim Z s n m hA lA oA tA eA (fun j => some (rw j)) (fun j => some (lr j)) fo ft fe dy ca ++ wRw Z n rw p h f t)).length + i) C iX10_of_246 gf_X10_36 (mid_at (A := (wSim Z s n m hA lA oA tA eA (fun j => some (rw j)) (fun j => some (lr j)) fo ft fe dy ca ++ wRw Z n rw p h f t)) (M := wPl Z L) (B := []) (by simp only [List.append_assoc, List.append_nil, List.nil_append]) (wPl_at hi9)) rfl ?_
      refine J_aload_n C iX10_of_249 rfl rfl ?_
      obtain ⟨j1, e1, f1⟩ := InT.at hxa
      refine J_cVb (As := [.ref s]) (st := .ref a :: []) (rc2 := 0) (rs2 := 0) (w0 := ((wSim Z s n m hA lA oA tA eA (fun j => some (rw j)) (fun j => some (lr j)) fo ft fe dy ca ++ wRw Z n rw p h f t) ++ wPl Z L)) (q0 := ((wSim Z s n m hA lA oA tA eA (fun j => some (rw j)) (fun j => some (lr j)) fo ft fe dy ca ++ wRw Z n rw p h f t)).length + j1) C iX10_of_250 lm_X10_40 yc_X10_of yv_X10_of (ih (q := kdA q) hxa) rfl rfl (mid_at (A := (wSim Z s n m hA lA oA tA eA (fun j => some (rw j)) (fun j => some (lr j)) fo ft fe dy ca ++ wRw Z n rw p h f t)) (M := wPl Z L) (B := []) (by simp only [List.append_assoc, List.append_nil, List.nil_append]) (wPl_at f1)) [] [] (by simp only [List.append_assoc, List.append_nil, List.nil_append]) rfl (rmK_le (by omega) (by decide)) (Nat.le_of_ble_eq_true rfl) (Nat.zero_add _).symm (Nat.zero_add _).symm ?_
      rintro _ _ ⟨rfl, rfl⟩
      refine J_st (.int (ofN n dy p h f t fu (kdA q)) :: .ref a :: []) rfl ?_
      refine J_ws ((wSim Z s n m hA lA oA tA eA (fun j => some (rw j)) (fun j => some (lr j)) fo ft fe dy ca ++ wRw Z n rw p h f t) ++ wPl Z L) (by simp only [List.append_assoc, List.append_nil, List.nil_append]) ?_
      refine J_aload_n C iX10_of_253 rfl rfl ?_
      refine J_get (.ref xb) (((wSim Z s n m hA lA oA tA eA (fun j => some (rw j)) (fun j => some (lr j)) fo ft fe dy ca ++ wRw Z n rw p h f t)).length + i) C iX10_of_254 gf_X10_51 (mid_at (A := (wSim Z s n m hA lA oA tA eA (fun j => some (rw j)) (fun j => some (lr j)) fo ft fe dy ca ++ wRw Z n rw p h f t)) (M := wPl Z L) (B := []) (by simp only [List.append_assoc, List.append_nil, List.nil_append]) (wPl_at hi9)) rfl ?_
      refine J_aload_n C iX10_of_257 rfl rfl ?_
      obtain ⟨j2, e2, f2⟩ := InT.at hxb
      refine J_cVb (As := [.ref s]) (st := .int (ofN n dy p h f t fu (kdA q)) :: .ref a :: []) (rc2 := 0) (rs2 := 0) (w0 := ((wSim Z s n m hA lA oA tA eA (fun j => some (rw j)) (fun j => some (lr j)) fo ft fe dy ca ++ wRw Z n rw p h f t) ++ wPl Z L)) (q0 := ((wSim Z s n m hA lA oA tA eA (fun j => some (rw j)) (fun j => some (lr j)) fo ft fe dy ca ++ wRw Z n rw p h f t)).length + j2) C iX10_of_258 lm_X10_40 yc_X10_of yv_X10_of (ih (q := kdB q) hxb) rfl rfl (mid_at (A := (wSim Z s n m hA lA oA tA eA (fun j => some (rw j)) (fun j => some (lr j)) fo ft fe dy ca ++ wRw Z n rw p h f t)) (M := wPl Z L) (B := []) (by simp only [List.append_assoc, List.append_nil, List.nil_append]) (wPl_at f2)) [] [] (by simp only [List.append_assoc, List.append_nil, List.nil_append]) rfl (rmK_le (by omega) (by decide)) (Nat.le_of_ble_eq_true rfl) (Nat.zero_add _).symm (Nat.zero_add _).symm ?_
      rintro _ _ ⟨rfl, rfl⟩
      refine J_st (.int (ofN n dy p h f t fu (kdB q)) :: .int (ofN n dy p h f t fu (kdA q)) :: .ref a :: []) rfl ?_
      refine J_ws ((wSim Z s n m hA lA oA tA eA (fun j => some (rw j)) (fun j => some (lr j)) fo ft fe dy ca ++ wRw Z n rw p h f t) ++ wPl Z L) (by simp only [List.append_assoc, List.append_nil, List.nil_append]) ?_
      refine J_cVb (As := [.int (ofN n dy p h f t fu (kdA q)), .int (ofN n dy p h f t fu (kdB q))]) (st := []) (rc2 := 0) (rs2 := 0) (w0 := (wPl Z L)) (q0 := i) C iX10_of_261 lm_X10_54 yc_X10_ofTwo yv_X10_ofTwo (c_X10_ofTwo (i := i) (x := ofN n dy p h f t fu (kdA q)) (y := ofN n dy p h f t fu (kdB q)) hi9 (by decide) (by decide)) rfl rfl (wPl_at hi9) (wSim Z s n m hA lA oA tA eA (fun j => some (rw j)) (fun j => some (lr j)) fo ft fe dy ca ++ wRw Z n rw p h f t) [] (by simp only [List.append_assoc, List.append_nil, List.nil_append]) rfl (rmK_le (by omega) (by decide)) (Nat.le_of_ble_eq_true rfl) (Nat.zero_add _).symm (Nat.zero_add _).symm ?_
      rintro _ _ ⟨rfl, rfl⟩
      refine J_st (.int (twN 9 (ofN n dy p h f t fu (kdA q)) (ofN n dy p h f t fu (kdB q))) :: []) rfl ?_
      refine J_ws ((wSim Z s n m hA lA oA tA eA (fun j => some (rw j)) (fun j => some (lr j)) fo ft fe dy ca ++ wRw Z n rw p h f t) ++ wPl Z L) (by simp only [List.append_assoc, List.append_nil, List.nil_append]) ?_
      exact J_iret C E iX10_of_264 ⟨congrArg (fun z => some (Value.int z)) (show (twN 9 (ofN n dy p h f t fu (kdA q)) (ofN n dy p h f t fu (kdB q)) : Int32) = ofN n dy p h f t (fu + 1) q by rw [ofN, if_neg (by omega), if_neg (by omega), if_pos (by rw [hk]; rfl), hk]), rfl⟩
    · rw [hk] at hi9 hbA hbB
      have hnm := nm_lt hn (q := q) (by omega)
      obtain ⟨xa, rfl, hxa⟩ := hbA rfl
      obtain ⟨xb, rfl, hxb⟩ := hbB rfl
      refine Ct.ofJ (own := RX10) (nm := "of") (lv0 := [(0, .ref a), (1, .ref s)]) (by decide) rfl rfl (Nat.le_of_ble_eq_true rfl) rfl (fun X hXl C E => ?_)
      subst hXl
      refine J_room (rc2 := 0) (rs2 := 0) (Nat.le_refl _) (Nat.le_refl _) ?_
      refine J_aload_n C iX10_of_0 rfl rfl ?_
      refine J_get (.int 10) (((wSim Z s n m hA lA oA tA eA (fun j => some (rw j)) (fun j => some (lr j)) fo ft fe dy ca ++ wRw Z n rw p h f t)).length + i) C iX10_of_1 gf_X10_7 (mid_at (A := (wSim Z s n m hA lA oA tA eA (fun j => some (rw j)) (fun j => some (lr j)) fo ft fe dy ca ++ wRw Z n rw p h f t)) (M := wPl Z L) (B := []) (by simp only [List.append_assoc, List.append_nil, List.nil_append]) (wPl_at hi9)) rfl ?_
      refine J_tabIn 244 C iX10_of_4 (by decide) (by decide) rfl rfl ?_
      refine J_aload_n C iX10_of_244 rfl rfl ?_
      refine J_aload_n C iX10_of_245 rfl rfl ?_
      refine J_get (.ref xa) (((wSim Z s n m hA lA oA tA eA (fun j => some (rw j)) (fun j => some (lr j)) fo ft fe dy ca ++ wRw Z n rw p h f t)).length + i) C iX10_of_246 gf_X10_36 (mid_at (A := (wSim Z s n m hA lA oA tA eA (fun j => some (rw j)) (fun j => some (lr j)) fo ft fe dy ca ++ wRw Z n rw p h f t)) (M := wPl Z L) (B := []) (by simp only [List.append_assoc, List.append_nil, List.nil_append]) (wPl_at hi9)) rfl ?_
      refine J_aload_n C iX10_of_249 rfl rfl ?_
      obtain ⟨j1, e1, f1⟩ := InT.at hxa
      refine J_cVb (As := [.ref s]) (st := .ref a :: []) (rc2 := 0) (rs2 := 0) (w0 := ((wSim Z s n m hA lA oA tA eA (fun j => some (rw j)) (fun j => some (lr j)) fo ft fe dy ca ++ wRw Z n rw p h f t) ++ wPl Z L)) (q0 := ((wSim Z s n m hA lA oA tA eA (fun j => some (rw j)) (fun j => some (lr j)) fo ft fe dy ca ++ wRw Z n rw p h f t)).length + j1) C iX10_of_250 lm_X10_40 yc_X10_of yv_X10_of (ih (q := kdA q) hxa) rfl rfl (mid_at (A := (wSim Z s n m hA lA oA tA eA (fun j => some (rw j)) (fun j => some (lr j)) fo ft fe dy ca ++ wRw Z n rw p h f t)) (M := wPl Z L) (B := []) (by simp only [List.append_assoc, List.append_nil, List.nil_append]) (wPl_at f1)) [] [] (by simp only [List.append_assoc, List.append_nil, List.nil_append]) rfl (rmK_le (by omega) (by decide)) (Nat.le_of_ble_eq_true rfl) (Nat.zero_add _).symm (Nat.zero_add _).symm ?_
      rintro _ _ ⟨rfl, rfl⟩
      refine J_st (.int (ofN n dy p h f t fu (kdA q)) :: .ref a :: []) rfl ?_
      refine J_ws ((wSim Z s n m hA lA oA tA eA (fun j => some (rw j)) (fun j => some (lr j)) fo ft fe dy ca ++ wRw Z n rw p h f t) ++ wPl Z L) (by simp only [List.append_assoc, List.append_nil, List.nil_append]) ?_
      refine J_aload_n C iX10_of_253 rfl rfl ?_
      refine J_get (.ref xb) (((wSim Z s n m hA lA oA tA eA (fun j => some (rw j)) (fun j => some (lr j)) fo ft fe dy ca ++ wRw Z n rw p h f t)).length + i) C iX10_of_254 gf_X10_51 (mid_at (A := (wSim Z s n m hA lA oA tA eA (fun j => some (rw j)) (fun j => some (lr j)) fo ft fe dy ca ++ wRw Z n rw p h f t)) (M := wPl Z L) (B := []) (by simp only [List.append_assoc, List.append_nil, List.nil_append]) (wPl_at hi9)) rfl ?_
      refine J_aload_n C iX10_of_257 rfl rfl ?_
      obtain ⟨j2, e2, f2⟩ := InT.at hxb
      refine J_cVb (As := [.ref s]) (st := .int (ofN n dy p h f t fu (kdA q)) :: .ref a :: []) (rc2 := 0) (rs2 := 0) (w0 := ((wSim Z s n m hA lA oA tA eA (fun j => some (rw j)) (fun j => some (lr j)) fo ft fe dy ca ++ wRw Z n rw p h f t) ++ wPl Z L)) (q0 := ((wSim Z s n m hA lA oA tA eA (fun j => some (rw j)) (fun j => some (lr j)) fo ft fe dy ca ++ wRw Z n rw p h f t)).length + j2) C iX10_of_258 lm_X10_40 yc_X10_of yv_X10_of (ih (q := kdB q) hxb) rfl rfl (mid_at (A := (wSim Z s n m hA lA oA tA eA (fun j => some (rw j)) (fun j => some (lr j)) fo ft fe dy ca ++ wRw Z n rw p h f t)) (M := wPl Z L) (B := []) (by simp only [List.append_assoc, List.append_nil, List.nil_append]) (wPl_at f2)) [] [] (by simp only [List.append_assoc, List.append_nil, List.nil_append]) rfl (rmK_le (by omega) (by decide)) (Nat.le_of_ble_eq_true rfl) (Nat.zero_add _).symm (Nat.zero_add _).symm ?_
      rintro _ _ ⟨rfl, rfl⟩
      refine J_st (.int (ofN n dy p h f t fu (kdB q)) :: .int (ofN n dy p h f t fu (kdA q)) :: .ref a :: []) rfl ?_
      refine J_ws ((wSim Z s n m hA lA oA tA eA (fun j => some (rw j)) (fun j => some (lr j)) fo ft fe dy ca ++ wRw Z n rw p h f t) ++ wPl Z L) (by simp only [List.append_assoc, List.append_nil, List.nil_append]) ?_
      refine J_cVb (As := [.int (ofN n dy p h f t fu (kdA q)), .int (ofN n dy p h f t fu (kdB q))]) (st := []) (rc2 := 0) (rs2 := 0) (w0 := (wPl Z L)) (q0 := i) C iX10_of_261 lm_X10_54 yc_X10_ofTwo yv_X10_ofTwo (c_X10_ofTwo (i := i) (x := ofN n dy p h f t fu (kdA q)) (y := ofN n dy p h f t fu (kdB q)) hi9 (by decide) (by decide)) rfl rfl (wPl_at hi9) (wSim Z s n m hA lA oA tA eA (fun j => some (rw j)) (fun j => some (lr j)) fo ft fe dy ca ++ wRw Z n rw p h f t) [] (by simp only [List.append_assoc, List.append_nil, List.nil_append]) rfl (rmK_le (by omega) (by decide)) (Nat.le_of_ble_eq_true rfl) (Nat.zero_add _).symm (Nat.zero_add _).symm ?_
      rintro _ _ ⟨rfl, rfl⟩
      refine J_st (.int (twN 10 (ofN n dy p h f t fu (kdA q)) (ofN n dy p h f t fu (kdB q))) :: []) rfl ?_
      refine J_ws ((wSim Z s n m hA lA oA tA eA (fun j => some (rw j)) (fun j => some (lr j)) fo ft fe dy ca ++ wRw Z n rw p h f t) ++ wPl Z L) (by simp only [List.append_assoc, List.append_nil, List.nil_append]) ?_
      exact J_iret C E iX10_of_264 ⟨congrArg (fun z => some (Value.int z)) (show (twN 10 (ofN n dy p h f t fu (kdA q)) (ofN n dy p h f t fu (kdB q)) : Int32) = ofN n dy p h f t (fu + 1) q by rw [ofN, if_neg (by omega), if_neg (by omega), if_pos (by rw [hk]; rfl), hk]), rfl⟩
    · rw [hk] at hi9 hbA hbB
      have hnm := nm_lt hn (q := q) (by omega)
      obtain ⟨xa, rfl, hxa⟩ := hbA rfl
      obtain ⟨xb, rfl, hxb⟩ := hbB rfl
      refine Ct.ofJ (own := RX10) (nm := "of") (lv0 := [(0, .ref a), (1, .ref s)]) (by decide) rfl rfl (Nat.le_of_ble_eq_true rfl) rfl (fun X hXl C E => ?_)
      subst hXl
      refine J_room (rc2 := 0) (rs2 := 0) (Nat.le_refl _) (Nat.le_refl _) ?_
      refine J_aload_n C iX10_of_0 rfl rfl ?_
      refine J_get (.int 11) (((wSim Z s n m hA lA oA tA eA (fun j => some (rw j)) (fun j => some (lr j)) fo ft fe dy ca ++ wRw Z n rw p h f t)).length + i) C iX10_of_1 gf_X10_7 (mid_at (A := (wSim Z s n m hA lA oA tA eA (fun j => some (rw j)) (fun j => some (lr j)) fo ft fe dy ca ++ wRw Z n rw p h f t)) (M := wPl Z L) (B := []) (by simp only [List.append_assoc, List.append_nil, List.nil_append]) (wPl_at hi9)) rfl ?_
      refine J_tabIn 244 C iX10_of_4 (by decide) (by decide) rfl rfl ?_
      refine J_aload_n C iX10_of_244 rfl rfl ?_
      refine J_aload_n C iX10_of_245 rfl rfl ?_
      refine J_get (.ref xa) (((wSim Z s n m hA lA oA tA eA (fun j => some (rw j)) (fun j => some (lr j)) fo ft fe dy ca ++ wRw Z n rw p h f t)).length + i) C iX10_of_246 gf_X10_36 (mid_at (A := (wSim Z s n m hA lA oA tA eA (fun j => some (rw j)) (fun j => some (lr j)) fo ft fe dy ca ++ wRw Z n rw p h f t)) (M := wPl Z L) (B := []) (by simp only [List.append_assoc, List.append_nil, List.nil_append]) (wPl_at hi9)) rfl ?_
      refine J_aload_n C iX10_of_249 rfl rfl ?_
      obtain ⟨j1, e1, f1⟩ := InT.at hxa
      refine J_cVb (As := [.ref s]) (st := .ref a :: []) (rc2 := 0) (rs2 := 0) (w0 := ((wSim Z s n m hA lA oA tA eA (fun j => some (rw j)) (fun j => some (lr j)) fo ft fe dy ca ++ wRw Z n rw p h f t) ++ wPl Z L)) (q0 := ((wSim Z s n m hA lA oA tA eA (fun j => some (rw j)) (fun j => some (lr j)) fo ft fe dy ca ++ wRw Z n rw p h f t)).length + j1) C iX10_of_250 lm_X10_40 yc_X10_of yv_X10_of (ih (q := kdA q) hxa) rfl rfl (mid_at (A := (wSim Z s n m hA lA oA tA eA (fun j => some (rw j)) (fun j => some (lr j)) fo ft fe dy ca ++ wRw Z n rw p h f t)) (M := wPl Z L) (B := []) (by simp only [List.append_assoc, List.append_nil, List.nil_append]) (wPl_at f1)) [] [] (by simp only [List.append_assoc, List.append_nil, List.nil_append]) rfl (rmK_le (by omega) (by decide)) (Nat.le_of_ble_eq_true rfl) (Nat.zero_add _).symm (Nat.zero_add _).symm ?_
      rintro _ _ ⟨rfl, rfl⟩
      refine J_st (.int (ofN n dy p h f t fu (kdA q)) :: .ref a :: []) rfl ?_
      refine J_ws ((wSim Z s n m hA lA oA tA eA (fun j => some (rw j)) (fun j => some (lr j)) fo ft fe dy ca ++ wRw Z n rw p h f t) ++ wPl Z L) (by simp only [List.append_assoc, List.append_nil, List.nil_append]) ?_
      refine J_aload_n C iX10_of_253 rfl rfl ?_
      refine J_get (.ref xb) (((wSim Z s n m hA lA oA tA eA (fun j => some (rw j)) (fun j => some (lr j)) fo ft fe dy ca ++ wRw Z n rw p h f t)).length + i) C iX10_of_254 gf_X10_51 (mid_at (A := (wSim Z s n m hA lA oA tA eA (fun j => some (rw j)) (fun j => some (lr j)) fo ft fe dy ca ++ wRw Z n rw p h f t)) (M := wPl Z L) (B := []) (by simp only [List.append_assoc, List.append_nil, List.nil_append]) (wPl_at hi9)) rfl ?_
      refine J_aload_n C iX10_of_257 rfl rfl ?_
      obtain ⟨j2, e2, f2⟩ := InT.at hxb
      refine J_cVb (As := [.ref s]) (st := .int (ofN n dy p h f t fu (kdA q)) :: .ref a :: []) (rc2 := 0) (rs2 := 0) (w0 := ((wSim Z s n m hA lA oA tA eA (fun j => some (rw j)) (fun j => some (lr j)) fo ft fe dy ca ++ wRw Z n rw p h f t) ++ wPl Z L)) (q0 := ((wSim Z s n m hA lA oA tA eA (fun j => some (rw j)) (fun j => some (lr j)) fo ft fe dy ca ++ wRw Z n rw p h f t)).length + j2) C iX10_of_258 lm_X10_40 yc_X10_of yv_X10_of (ih (q := kdB q) hxb) rfl rfl (mid_at (A := (wSim Z s n m hA lA oA tA eA (fun j => some (rw j)) (fun j => some (lr j)) fo ft fe dy ca ++ wRw Z n rw p h f t)) (M := wPl Z L) (B := []) (by simp only [List.append_assoc, List.append_nil, List.nil_append]) (wPl_at f2)) [] [] (by simp only [List.append_assoc, List.append_nil, List.nil_append]) rfl (rmK_le (by omega) (by decide)) (Nat.le_of_ble_eq_true rfl) (Nat.zero_add _).symm (Nat.zero_add _).symm ?_
      rintro _ _ ⟨rfl, rfl⟩
      refine J_st (.int (ofN n dy p h f t fu (kdB q)) :: .int (ofN n dy p h f t fu (kdA q)) :: .ref a :: []) rfl ?_
      refine J_ws ((wSim Z s n m hA lA oA tA eA (fun j => some (rw j)) (fun j => some (lr j)) fo ft fe dy ca ++ wRw Z n rw p h f t) ++ wPl Z L) (by simp only [List.append_assoc, List.append_nil, List.nil_append]) ?_
      refine J_cVb (As := [.int (ofN n dy p h f t fu (kdA q)), .int (ofN n dy p h f t fu (kdB q))]) (st := []) (rc2 := 0) (rs2 := 0) (w0 := (wPl Z L)) (q0 := i) C iX10_of_261 lm_X10_54 yc_X10_ofTwo yv_X10_ofTwo (c_X10_ofTwo (i := i) (x := ofN n dy p h f t fu (kdA q)) (y := ofN n dy p h f t fu (kdB q)) hi9 (by decide) (by decide)) rfl rfl (wPl_at hi9) (wSim Z s n m hA lA oA tA eA (fun j => some (rw j)) (fun j => some (lr j)) fo ft fe dy ca ++ wRw Z n rw p h f t) [] (by simp only [List.append_assoc, List.append_nil, List.nil_append]) rfl (rmK_le (by omega) (by decide)) (Nat.le_of_ble_eq_true rfl) (Nat.zero_add _).symm (Nat.zero_add _).symm ?_
      rintro _ _ ⟨rfl, rfl⟩
      refine J_st (.int (twN 11 (ofN n dy p h f t fu (kdA q)) (ofN n dy p h f t fu (kdB q))) :: []) rfl ?_
      refine J_ws ((wSim Z s n m hA lA oA tA eA (fun j => some (rw j)) (fun j => some (lr j)) fo ft fe dy ca ++ wRw Z n rw p h f t) ++ wPl Z L) (by simp only [List.append_assoc, List.append_nil, List.nil_append]) ?_
      exact J_iret C E iX10_of_264 ⟨congrArg (fun z => some (Value.int z)) (show (twN 11 (ofN n dy p h f t fu (kdA q)) (ofN n dy p h f t fu (kdB q)) : Int32) = ofN n dy p h f t (fu + 1) q by rw [ofN, if_neg (by omega), if_neg (by omega), if_pos (by rw [hk]; rfl), hk]), rfl⟩
    · rw [hk] at hi9 hbA hbB
      have hnm := nm_lt hn (q := q) (by omega)
      obtain ⟨xa, rfl, hxa⟩ := hbA rfl
      obtain ⟨xb, rfl, hxb⟩ := hbB rfl
      refine Ct.ofJ (own := RX10) (nm := "of") (lv0 := [(0, .ref a), (1, .ref s)]) (by decide) rfl rfl (Nat.le_of_ble_eq_true rfl) rfl (fun X hXl C E => ?_)
      subst hXl
      refine J_room (rc2 := 0) (rs2 := 0) (Nat.le_refl _) (Nat.le_refl _) ?_
      refine J_aload_n C iX10_of_0 rfl rfl ?_
      refine J_get (.int 12) (((wSim Z s n m hA lA oA tA eA (fun j => some (rw j)) (fun j => some (lr j)) fo ft fe dy ca ++ wRw Z n rw p h f t)).length + i) C iX10_of_1 gf_X10_7 (mid_at (A := (wSim Z s n m hA lA oA tA eA (fun j => some (rw j)) (fun j => some (lr j)) fo ft fe dy ca ++ wRw Z n rw p h f t)) (M := wPl Z L) (B := []) (by simp only [List.append_assoc, List.append_nil, List.nil_append]) (wPl_at hi9)) rfl ?_
      refine J_tabIn 244 C iX10_of_4 (by decide) (by decide) rfl rfl ?_
      refine J_aload_n C iX10_of_244 rfl rfl ?_
      refine J_aload_n C iX10_of_245 rfl rfl ?_
      refine J_get (.ref xa) (((wSim Z s n m hA lA oA tA eA (fun j => some (rw j)) (fun j => some (lr j)) fo ft fe dy ca ++ wRw Z n rw p h f t)).length + i) C iX10_of_246 gf_X10_36 (mid_at (A := (wSim Z s n m hA lA oA tA eA (fun j => some (rw j)) (fun j => some (lr j)) fo ft fe dy ca ++ wRw Z n rw p h f t)) (M := wPl Z L) (B := []) (by simp only [List.append_assoc, List.append_nil, List.nil_append]) (wPl_at hi9)) rfl ?_
      refine J_aload_n C iX10_of_249 rfl rfl ?_
      obtain ⟨j1, e1, f1⟩ := InT.at hxa
      refine J_cVb (As := [.ref s]) (st := .ref a :: []) (rc2 := 0) (rs2 := 0) (w0 := ((wSim Z s n m hA lA oA tA eA (fun j => some (rw j)) (fun j => some (lr j)) fo ft fe dy ca ++ wRw Z n rw p h f t) ++ wPl Z L)) (q0 := ((wSim Z s n m hA lA oA tA eA (fun j => some (rw j)) (fun j => some (lr j)) fo ft fe dy ca ++ wRw Z n rw p h f t)).length + j1) C iX10_of_250 lm_X10_40 yc_X10_of yv_X10_of (ih (q := kdA q) hxa) rfl rfl (mid_at (A := (wSim Z s n m hA lA oA tA eA (fun j => some (rw j)) (fun j => some (lr j)) fo ft fe dy ca ++ wRw Z n rw p h f t)) (M := wPl Z L) (B := []) (by simp only [List.append_assoc, List.append_nil, List.nil_append]) (wPl_at f1)) [] [] (by simp only [List.append_assoc, List.append_nil, List.nil_append]) rfl (rmK_le (by omega) (by decide)) (Nat.le_of_ble_eq_true rfl) (Nat.zero_add _).symm (Nat.zero_add _).symm ?_
      rintro _ _ ⟨rfl, rfl⟩
      refine J_st (.int (ofN n dy p h f t fu (kdA q)) :: .ref a :: []) rfl ?_
      refine J_ws ((wSim Z s n m hA lA oA tA eA (fun j => some (rw j)) (fun j => some (lr j)) fo ft fe dy ca ++ wRw Z n rw p h f t) ++ wPl Z L) (by simp only [List.append_assoc, List.append_nil, List.nil_append]) ?_
      refine J_aload_n C iX10_of_253 rfl rfl ?_
      refine J_get (.ref xb) (((wSim Z s n m hA lA oA tA eA (fun j => some (rw j)) (fun j => some (lr j)) fo ft fe dy ca ++ wRw Z n rw p h f t)).length + i) C iX10_of_254 gf_X10_51 (mid_at (A := (wSim Z s n m hA lA oA tA eA (fun j => some (rw j)) (fun j => some (lr j)) fo ft fe dy ca ++ wRw Z n rw p h f t)) (M := wPl Z L) (B := []) (by simp only [List.append_assoc, List.append_nil, List.nil_append]) (wPl_at hi9)) rfl ?_
      refine J_aload_n C iX10_of_257 rfl rfl ?_
      obtain ⟨j2, e2, f2⟩ := InT.at hxb
      refine J_cVb (As := [.ref s]) (st := .int (ofN n dy p h f t fu (kdA q)) :: .ref a :: []) (rc2 := 0) (rs2 := 0) (w0 := ((wSim Z s n m hA lA oA tA eA (fun j => some (rw j)) (fun j => some (lr j)) fo ft fe dy ca ++ wRw Z n rw p h f t) ++ wPl Z L)) (q0 := ((wSim Z s n m hA lA oA tA eA (fun j => some (rw j)) (fun j => some (lr j)) fo ft fe dy ca ++ wRw Z n rw p h f t)).length + j2) C iX10_of_258 lm_X10_40 yc_X10_of yv_X10_of (ih (q := kdB q) hxb) rfl rfl (mid_at (A := (wSim Z s n m hA lA oA tA eA (fun j => some (rw j)) (fun j => some (lr j)) fo ft fe dy ca ++ wRw Z n rw p h f t)) (M := wPl Z L) (B := []) (by simp only [List.append_assoc, List.append_nil, List.nil_append]) (wPl_at f2)) [] [] (by simp only [List.append_assoc, List.append_nil, List.nil_append]) rfl (rmK_le (by omega) (by decide)) (Nat.le_of_ble_eq_true rfl) (Nat.zero_add _).symm (Nat.zero_add _).symm ?_
      rintro _ _ ⟨rfl, rfl⟩
      refine J_st (.int (ofN n dy p h f t fu (kdB q)) :: .int (ofN n dy p h f t fu (kdA q)) :: .ref a :: []) rfl ?_
      refine J_ws ((wSim Z s n m hA lA oA tA eA (fun j => some (rw j)) (fun j => some (lr j)) fo ft fe dy ca ++ wRw Z n rw p h f t) ++ wPl Z L) (by simp only [List.append_assoc, List.append_nil, List.nil_append]) ?_
      refine J_cVb (As := [.int (ofN n dy p h f t fu (kdA q)), .int (ofN n dy p h f t fu (kdB q))]) (st := []) (rc2 := 0) (rs2 := 0) (w0 := (wPl Z L)) (q0 := i) C iX10_of_261 lm_X10_54 yc_X10_ofTwo yv_X10_ofTwo (c_X10_ofTwo (i := i) (x := ofN n dy p h f t fu (kdA q)) (y := ofN n dy p h f t fu (kdB q)) hi9 (by decide) (by decide)) rfl rfl (wPl_at hi9) (wSim Z s n m hA lA oA tA eA (fun j => some (rw j)) (fun j => some (lr j)) fo ft fe dy ca ++ wRw Z n rw p h f t) [] (by simp only [List.append_assoc, List.append_nil, List.nil_append]) rfl (rmK_le (by omega) (by decide)) (Nat.le_of_ble_eq_true rfl) (Nat.zero_add _).symm (Nat.zero_add _).symm ?_
      rintro _ _ ⟨rfl, rfl⟩
      refine J_st (.int (twN 12 (ofN n dy p h f t fu (kdA q)) (ofN n dy p h f t fu (kdB q))) :: []) rfl ?_
      refine J_ws ((wSim Z s n m hA lA oA tA eA (fun j => some (rw j)) (fun j => some (lr j)) fo ft fe dy ca ++ wRw Z n rw p h f t) ++ wPl Z L) (by simp only [List.append_assoc, List.append_nil, List.nil_append]) ?_
      exact J_iret C E iX10_of_264 ⟨congrArg (fun z => some (Value.int z)) (show (twN 12 (ofN n dy p h f t fu (kdA q)) (ofN n dy p h f t fu (kdB q)) : Int32) = ofN n dy p h f t (fu + 1) q by rw [ofN, if_neg (by omega), if_neg (by omega), if_pos (by rw [hk]; rfl), hk]), rfl⟩
    · rw [hk] at hi9 hbA hbB
      have hnm := nm_lt hn (q := q) (by omega)
      obtain ⟨xa, rfl, hxa⟩ := hbA rfl
      obtain ⟨xb, rfl, hxb⟩ := hbB rfl
      refine Ct.ofJ (own := RX10) (nm := "of") (lv0 := [(0, .ref a), (1, .ref s)]) (by decide) rfl rfl (Nat.le_of_ble_eq_true rfl) rfl (fun X hXl C E => ?_)
      subst hXl
      refine J_room (rc2 := 0) (rs2 := 0) (Nat.le_refl _) (Nat.le_refl _) ?_
      refine J_aload_n C iX10_of_0 rfl rfl ?_
      refine J_get (.int 20) (((wSim Z s n m hA lA oA tA eA (fun j => some (rw j)) (fun j => some (lr j)) fo ft fe dy ca ++ wRw Z n rw p h f t)).length + i) C iX10_of_1 gf_X10_7 (mid_at (A := (wSim Z s n m hA lA oA tA eA (fun j => some (rw j)) (fun j => some (lr j)) fo ft fe dy ca ++ wRw Z n rw p h f t)) (M := wPl Z L) (B := []) (by simp only [List.append_assoc, List.append_nil, List.nil_append]) (wPl_at hi9)) rfl ?_
      refine J_tabIn 244 C iX10_of_4 (by decide) (by decide) rfl rfl ?_
      refine J_aload_n C iX10_of_244 rfl rfl ?_
      refine J_aload_n C iX10_of_245 rfl rfl ?_
      refine J_get (.ref xa) (((wSim Z s n m hA lA oA tA eA (fun j => some (rw j)) (fun j => some (lr j)) fo ft fe dy ca ++ wRw Z n rw p h f t)).length + i) C iX10_of_246 gf_X10_36 (mid_at (A := (wSim Z s n m hA lA oA tA eA (fun j => some (rw j)) (fun j => some (lr j)) fo ft fe dy ca ++ wRw Z n rw p h f t)) (M := wPl Z L) (B := []) (by simp only [List.append_assoc, List.append_nil, List.nil_append]) (wPl_at hi9)) rfl ?_
      refine J_aload_n C iX10_of_249 rfl rfl ?_
      obtain ⟨j1, e1, f1⟩ := InT.at hxa
      refine J_cVb (As := [.ref s]) (st := .ref a :: []) (rc2 := 0) (rs2 := 0) (w0 := ((wSim Z s n m hA lA oA tA eA (fun j => some (rw j)) (fun j => some (lr j)) fo ft fe dy ca ++ wRw Z n rw p h f t) ++ wPl Z L)) (q0 := ((wSim Z s n m hA lA oA tA eA (fun j => some (rw j)) (fun j => some (lr j)) fo ft fe dy ca ++ wRw Z n rw p h f t)).length + j1) C iX10_of_250 lm_X10_40 yc_X10_of yv_X10_of (ih (q := kdA q) hxa) rfl rfl (mid_at (A := (wSim Z s n m hA lA oA tA eA (fun j => some (rw j)) (fun j => some (lr j)) fo ft fe dy ca ++ wRw Z n rw p h f t)) (M := wPl Z L) (B := []) (by simp only [List.append_assoc, List.append_nil, List.nil_append]) (wPl_at f1)) [] [] (by simp only [List.append_assoc, List.append_nil, List.nil_append]) rfl (rmK_le (by omega) (by decide)) (Nat.le_of_ble_eq_true rfl) (Nat.zero_add _).symm (Nat.zero_add _).symm ?_
      rintro _ _ ⟨rfl, rfl⟩
      refine J_st (.int (ofN n dy p h f t fu (kdA q)) :: .ref a :: []) rfl ?_
      refine J_ws ((wSim Z s n m hA lA oA tA eA (fun j => some (rw j)) (fun j => some (lr j)) fo ft fe dy ca ++ wRw Z n rw p h f t) ++ wPl Z L) (by simp only [List.append_assoc, List.append_nil, List.nil_append]) ?_
      refine J_aload_n C iX10_of_253 rfl rfl ?_
      refine J_get (.ref xb) (((wSim Z s n m hA lA oA tA eA (fun j => some (rw j)) (fun j => some (lr j)) fo ft fe dy ca ++ wRw Z n rw p h f t)).length + i) C iX10_of_254 gf_X10_51 (mid_at (A := (wSim Z s n m hA lA oA tA eA (fun j => some (rw j)) (fun j => some (lr j)) fo ft fe dy ca ++ wRw Z n rw p h f t)) (M := wPl Z L) (B := []) (by simp only [List.append_assoc, List.append_nil, List.nil_append]) (wPl_at hi9)) rfl ?_
      refine J_aload_n C iX10_of_257 rfl rfl ?_
      obtain ⟨j2, e2, f2⟩ := InT.at hxb
      refine J_cVb (As := [.ref s]) (st := .int (ofN n dy p h f t fu (kdA q)) :: .ref a :: []) (rc2 := 0) (rs2 := 0) (w0 := ((wSim Z s n m hA lA oA tA eA (fun j => some (rw j)) (fun j => some (lr j)) fo ft fe dy ca ++ wRw Z n rw p h f t) ++ wPl Z L)) (q0 := ((wSim Z s n m hA lA oA tA eA (fun j => some (rw j)) (fun j => some (lr j)) fo ft fe dy ca ++ wRw Z n rw p h f t)).length + j2) C iX10_of_258 lm_X10_40 yc_X10_of yv_X10_of (ih (q := kdB q) hxb) rfl rfl (mid_at (A := (wSim Z s n m hA lA oA tA eA (fun j => some (rw j)) (fun j => some (lr j)) fo ft fe dy ca ++ wRw Z n rw p h f t)) (M := wPl Z L) (B := []) (by simp only [List.append_assoc, List.append_nil, List.nil_append]) (wPl_at f2)) [] [] (by simp only [List.append_assoc, List.append_nil, List.nil_append]) rfl (rmK_le (by omega) (by decide)) (Nat.le_of_ble_eq_true rfl) (Nat.zero_add _).symm (Nat.zero_add _).symm ?_
      rintro _ _ ⟨rfl, rfl⟩
      refine J_st (.int (ofN n dy p h f t fu (kdB q)) :: .int (ofN n dy p h f t fu (kdA q)) :: .ref a :: []) rfl ?_
      refine J_ws ((wSim Z s n m hA lA oA tA eA (fun j => some (rw j)) (fun j => some (lr j)) fo ft fe dy ca ++ wRw Z n rw p h f t) ++ wPl Z L) (by simp only [List.append_assoc, List.append_nil, List.nil_append]) ?_
      refine J_cVb (As := [.int (ofN n dy p h f t fu (kdA q)), .int (ofN n dy p h f t fu (kdB q))]) (st := []) (rc2 := 0) (rs2 := 0) (w0 := (wPl Z L)) (q0 := i) C iX10_of_261 lm_X10_54 yc_X10_ofTwo yv_X10_ofTwo (c_X10_ofTwo (i := i) (x := ofN n dy p h f t fu (kdA q)) (y := ofN n dy p h f t fu (kdB q)) hi9 (by decide) (by decide)) rfl rfl (wPl_at hi9) (wSim Z s n m hA lA oA tA eA (fun j => some (rw j)) (fun j => some (lr j)) fo ft fe dy ca ++ wRw Z n rw p h f t) [] (by simp only [List.append_assoc, List.append_nil, List.nil_append]) rfl (rmK_le (by omega) (by decide)) (Nat.le_of_ble_eq_true rfl) (Nat.zero_add _).symm (Nat.zero_add _).symm ?_
      rintro _ _ ⟨rfl, rfl⟩
      refine J_st (.int (twN 20 (ofN n dy p h f t fu (kdA q)) (ofN n dy p h f t fu (kdB q))) :: []) rfl ?_
      refine J_ws ((wSim Z s n m hA lA oA tA eA (fun j => some (rw j)) (fun j => some (lr j)) fo ft fe dy ca ++ wRw Z n rw p h f t) ++ wPl Z L) (by simp only [List.append_assoc, List.append_nil, List.nil_append]) ?_
      exact J_iret C E iX10_of_264 ⟨congrArg (fun z => some (Value.int z)) (show (twN 20 (ofN n dy p h f t fu (kdA q)) (ofN n dy p h f t fu (kdB q)) : Int32) = ofN n dy p h f t (fu + 1) q by rw [ofN, if_neg (by omega), if_neg (by omega), if_pos (by rw [hk]; rfl), hk]), rfl⟩
    · rw [hk] at hi9 hbA hbB
      have hnm := nm_lt hn (q := q) (by omega)
      obtain ⟨xa, rfl, hxa⟩ := hbA rfl
      obtain ⟨xb, rfl, hxb⟩ := hbB rfl
      refine Ct.ofJ (own := RX10) (nm := "of") (lv0 := [(0, .ref a), (1, .ref s)]) (by decide) rfl rfl (Nat.le_of_ble_eq_true rfl) rfl (fun X hXl C E => ?_)
      subst hXl
      refine J_room (rc2 := 0) (rs2 := 0) (Nat.le_refl _) (Nat.le_refl _) ?_
      refine J_aload_n C iX10_of_0 rfl rfl ?_
      refine J_get (.int 21) (((wSim Z s n m hA lA oA tA eA (fun j => some (rw j)) (fun j => some (lr j)) fo ft fe dy ca ++ wRw Z n rw p h f t)).length + i) C iX10_of_1 gf_X10_7 (mid_at (A := (wSim Z s n m hA lA oA tA eA (fun j => some (rw j)) (fun j => some (lr j)) fo ft fe dy ca ++ wRw Z n rw p h f t)) (M := wPl Z L) (B := []) (by simp only [List.append_assoc, List.append_nil, List.nil_append]) (wPl_at hi9)) rfl ?_
      refine J_tabIn 244 C iX10_of_4 (by decide) (by decide) rfl rfl ?_
      refine J_aload_n C iX10_of_244 rfl rfl ?_
      refine J_aload_n C iX10_of_245 rfl rfl ?_
      refine J_get (.ref xa) (((wSim Z s n m hA lA oA tA eA (fun j => some (rw j)) (fun j => some (lr j)) fo ft fe dy ca ++ wRw Z n rw p h f t)).length + i) C iX10_of_246 gf_X10_36 (mid_at (A := (wSim Z s n m hA lA oA tA eA (fun j => some (rw j)) (fun j => some (lr j)) fo ft fe dy ca ++ wRw Z n rw p h f t)) (M := wPl Z L) (B := []) (by simp only [List.append_assoc, List.append_nil, List.nil_append]) (wPl_at hi9)) rfl ?_
      refine J_aload_n C iX10_of_249 rfl rfl ?_
      obtain ⟨j1, e1, f1⟩ := InT.at hxa
      refine J_cVb (As := [.ref s]) (st := .ref a :: []) (rc2 := 0) (rs2 := 0) (w0 := ((wSim Z s n m hA lA oA tA eA (fun j => some (rw j)) (fun j => some (lr j)) fo ft fe dy ca ++ wRw Z n rw p h f t) ++ wPl Z L)) (q0 := ((wSim Z s n m hA lA oA tA eA (fun j => some (rw j)) (fun j => some (lr j)) fo ft fe dy ca ++ wRw Z n rw p h f t)).length + j1) C iX10_of_250 lm_X10_40 yc_X10_of yv_X10_of (ih (q := kdA q) hxa) rfl rfl (mid_at (A := (wSim Z s n m hA lA oA tA eA (fun j => some (rw j)) (fun j => some (lr j)) fo ft fe dy ca ++ wRw Z n rw p h f t)) (M := wPl Z L) (B := []) (by simp only [List.append_assoc, List.append_nil, List.nil_append]) (wPl_at f1)) [] [] (by simp only [List.append_assoc, List.append_nil, List.nil_append]) rfl (rmK_le (by omega) (by decide)) (Nat.le_of_ble_eq_true rfl) (Nat.zero_add _).symm (Nat.zero_add _).symm ?_
      rintro _ _ ⟨rfl, rfl⟩
      refine J_st (.int (ofN n dy p h f t fu (kdA q)) :: .ref a :: []) rfl ?_
      refine J_ws ((wSim Z s n m hA lA oA tA eA (fun j => some (rw j)) (fun j => some (lr j)) fo ft fe dy ca ++ wRw Z n rw p h f t) ++ wPl Z L) (by simp only [List.append_assoc, List.append_nil, List.nil_append]) ?_
      refine J_aload_n C iX10_of_253 rfl rfl ?_
      refine J_get (.ref xb) (((wSim Z s n m hA lA oA tA eA (fun j => some (rw j)) (fun j => some (lr j)) fo ft fe dy ca ++ wRw Z n rw p h f t)).length + i) C iX10_of_254 gf_X10_51 (mid_at (A := (wSim Z s n m hA lA oA tA eA (fun j => some (rw j)) (fun j => some (lr j)) fo ft fe dy ca ++ wRw Z n rw p h f t)) (M := wPl Z L) (B := []) (by simp only [List.append_assoc, List.append_nil, List.nil_append]) (wPl_at hi9)) rfl ?_
      refine J_aload_n C iX10_of_257 rfl rfl ?_
      obtain ⟨j2, e2, f2⟩ := InT.at hxb
      refine J_cVb (As := [.ref s]) (st := .int (ofN n dy p h f t fu (kdA q)) :: .ref a :: []) (rc2 := 0) (rs2 := 0) (w0 := ((wSim Z s n m hA lA oA tA eA (fun j => some (rw j)) (fun j => some (lr j)) fo ft fe dy ca ++ wRw Z n rw p h f t) ++ wPl Z L)) (q0 := ((wSim Z s n m hA lA oA tA eA (fun j => some (rw j)) (fun j => some (lr j)) fo ft fe dy ca ++ wRw Z n rw p h f t)).length + j2) C iX10_of_258 lm_X10_40 yc_X10_of yv_X10_of (ih (q := kdB q) hxb) rfl rfl (mid_at (A := (wSim Z s n m hA lA oA tA eA (fun j => some (rw j)) (fun j => some (lr j)) fo ft fe dy ca ++ wRw Z n rw p h f t)) (M := wPl Z L) (B := []) (by simp only [List.append_assoc, List.append_nil, List.nil_append]) (wPl_at f2)) [] [] (by simp only [List.append_assoc, List.append_nil, List.nil_append]) rfl (rmK_le (by omega) (by decide)) (Nat.le_of_ble_eq_true rfl) (Nat.zero_add _).symm (Nat.zero_add _).symm ?_
      rintro _ _ ⟨rfl, rfl⟩
      refine J_st (.int (ofN n dy p h f t fu (kdB q)) :: .int (ofN n dy p h f t fu (kdA q)) :: .ref a :: []) rfl ?_
      refine J_ws ((wSim Z s n m hA lA oA tA eA (fun j => some (rw j)) (fun j => some (lr j)) fo ft fe dy ca ++ wRw Z n rw p h f t) ++ wPl Z L) (by simp only [List.append_assoc, List.append_nil, List.nil_append]) ?_
      refine J_cVb (As := [.int (ofN n dy p h f t fu (kdA q)), .int (ofN n dy p h f t fu (kdB q))]) (st := []) (rc2 := 0) (rs2 := 0) (w0 := (wPl Z L)) (q0 := i) C iX10_of_261 lm_X10_54 yc_X10_ofTwo yv_X10_ofTwo (c_X10_ofTwo (i := i) (x := ofN n dy p h f t fu (kdA q)) (y := ofN n dy p h f t fu (kdB q)) hi9 (by decide) (by decide)) rfl rfl (wPl_at hi9) (wSim Z s n m hA lA oA tA eA (fun j => some (rw j)) (fun j => some (lr j)) fo ft fe dy ca ++ wRw Z n rw p h f t) [] (by simp only [List.append_assoc, List.append_nil, List.nil_append]) rfl (rmK_le (by omega) (by decide)) (Nat.le_of_ble_eq_true rfl) (Nat.zero_add _).symm (Nat.zero_add _).symm ?_
      rintro _ _ ⟨rfl, rfl⟩
      refine J_st (.int (twN 21 (ofN n dy p h f t fu (kdA q)) (ofN n dy p h f t fu (kdB q))) :: []) rfl ?_
      refine J_ws ((wSim Z s n m hA lA oA tA eA (fun j => some (rw j)) (fun j => some (lr j)) fo ft fe dy ca ++ wRw Z n rw p h f t) ++ wPl Z L) (by simp only [List.append_assoc, List.append_nil, List.nil_append]) ?_
      exact J_iret C E iX10_of_264 ⟨congrArg (fun z => some (Value.int z)) (show (twN 21 (ofN n dy p h f t fu (kdA q)) (ofN n dy p h f t fu (kdB q)) : Int32) = ofN n dy p h f t (fu + 1) q by rw [ofN, if_neg (by omega), if_neg (by omega), if_pos (by rw [hk]; rfl), hk]), rfl⟩
    · rw [hk] at hi9 hbA hbB
      have hnm := nm_lt hn (q := q) (by omega)
      obtain ⟨xa, rfl, hxa⟩ := hbA rfl
      obtain ⟨xb, rfl, hxb⟩ := hbB rfl
      refine Ct.ofJ (own := RX10) (nm := "of") (lv0 := [(0, .ref a), (1, .ref s)]) (by decide) rfl rfl (Nat.le_of_ble_eq_true rfl) rfl (fun X hXl C E => ?_)
      subst hXl
      refine J_room (rc2 := 0) (rs2 := 0) (Nat.le_refl _) (Nat.le_refl _) ?_
      refine J_aload_n C iX10_of_0 rfl rfl ?_
      refine J_get (.int 22) (((wSim Z s n m hA lA oA tA eA (fun j => some (rw j)) (fun j => some (lr j)) fo ft fe dy ca ++ wRw Z n rw p h f t)).length + i) C iX10_of_1 gf_X10_7 (mid_at (A := (wSim Z s n m hA lA oA tA eA (fun j => some (rw j)) (fun j => some (lr j)) fo ft fe dy ca ++ wRw Z n rw p h f t)) (M := wPl Z L) (B := []) (by simp only [List.append_assoc, List.append_nil, List.nil_append]) (wPl_at hi9)) rfl ?_
      refine J_tabIn 244 C iX10_of_4 (by decide) (by decide) rfl rfl ?_
      refine J_aload_n C iX10_of_244 rfl rfl ?_
      refine J_aload_n C iX10_of_245 rfl rfl ?_
      refine J_get (.ref xa) (((wSim Z s n m hA lA oA tA eA (fun j => some (rw j)) (fun j => some (lr j)) fo ft fe dy ca ++ wRw Z n rw p h f t)).length + i) C iX10_of_246 gf_X10_36 (mid_at (A := (wSim Z s n m hA lA oA tA eA (fun j => some (rw j)) (fun j => some (lr j)) fo ft fe dy ca ++ wRw Z n rw p h f t)) (M := wPl Z L) (B := []) (by simp only [List.append_assoc, List.append_nil, List.nil_append]) (wPl_at hi9)) rfl ?_
      refine J_aload_n C iX10_of_249 rfl rfl ?_
      obtain ⟨j1, e1, f1⟩ := InT.at hxa
      refine J_cVb (As := [.ref s]) (st := .ref a :: []) (rc2 := 0) (rs2 := 0) (w0 := ((wSim Z s n m hA lA oA tA eA (fun j => some (rw j)) (fun j => some (lr j)) fo ft fe dy ca ++ wRw Z n rw p h f t) ++ wPl Z L)) (q0 := ((wSim Z s n m hA lA oA tA eA (fun j => some (rw j)) (fun j => some (lr j)) fo ft fe dy ca ++ wRw Z n rw p h f t)).length + j1) C iX10_of_250 lm_X10_40 yc_X10_of yv_X10_of (ih (q := kdA q) hxa) rfl rfl (mid_at (A := (wSim Z s n m hA lA oA tA eA (fun j => some (rw j)) (fun j => some (lr j)) fo ft fe dy ca ++ wRw Z n rw p h f t)) (M := wPl Z L) (B := []) (by simp only [List.append_assoc, List.append_nil, List.nil_append]) (wPl_at f1)) [] [] (by simp only [List.append_assoc, List.append_nil, List.nil_append]) rfl (rmK_le (by omega) (by decide)) (Nat.le_of_ble_eq_true rfl) (Nat.zero_add _).symm (Nat.zero_add _).symm ?_
      rintro _ _ ⟨rfl, rfl⟩
      refine J_st (.int (ofN n dy p h f t fu (kdA q)) :: .ref a :: []) rfl ?_
      refine J_ws ((wSim Z s n m hA lA oA tA eA (fun j => some (rw j)) (fun j => some (lr j)) fo ft fe dy ca ++ wRw Z n rw p h f t) ++ wPl Z L) (by simp only [List.append_assoc, List.append_nil, List.nil_append]) ?_
      refine J_aload_n C iX10_of_253 rfl rfl ?_
      refine J_get (.ref xb) (((wSim Z s n m hA lA oA tA eA (fun j => some (rw j)) (fun j => some (lr j)) fo ft fe dy ca ++ wRw Z n rw p h f t)).length + i) C iX10_of_254 gf_X10_51 (mid_at (A := (wSim Z s n m hA lA oA tA eA (fun j => some (rw j)) (fun j => some (lr j)) fo ft fe dy ca ++ wRw Z n rw p h f t)) (M := wPl Z L) (B := []) (by simp only [List.append_assoc, List.append_nil, List.nil_append]) (wPl_at hi9)) rfl ?_
      refine J_aload_n C iX10_of_257 rfl rfl ?_
      obtain ⟨j2, e2, f2⟩ := InT.at hxb
      refine J_cVb (As := [.ref s]) (st := .int (ofN n dy p h f t fu (kdA q)) :: .ref a :: []) (rc2 := 0) (rs2 := 0) (w0 := ((wSim Z s n m hA lA oA tA eA (fun j => some (rw j)) (fun j => some (lr j)) fo ft fe dy ca ++ wRw Z n rw p h f t) ++ wPl Z L)) (q0 := ((wSim Z s n m hA lA oA tA eA (fun j => some (rw j)) (fun j => some (lr j)) fo ft fe dy ca ++ wRw Z n rw p h f t)).length + j2) C iX10_of_258 lm_X10_40 yc_X10_of yv_X10_of (ih (q := kdB q) hxb) rfl rfl (mid_at (A := (wSim Z s n m hA lA oA tA eA (fun j => some (rw j)) (fun j => some (lr j)) fo ft fe dy ca ++ wRw Z n rw p h f t)) (M := wPl Z L) (B := []) (by simp only [List.append_assoc, List.append_nil, List.nil_append]) (wPl_at f2)) [] [] (by simp only [List.append_assoc, List.append_nil, List.nil_append]) rfl (rmK_le (by omega) (by decide)) (Nat.le_of_ble_eq_true rfl) (Nat.zero_add _).symm (Nat.zero_add _).symm ?_
      rintro _ _ ⟨rfl, rfl⟩
      refine J_st (.int (ofN n dy p h f t fu (kdB q)) :: .int (ofN n dy p h f t fu (kdA q)) :: .ref a :: []) rfl ?_
      refine J_ws ((wSim Z s n m hA lA oA tA eA (fun j => some (rw j)) (fun j => some (lr j)) fo ft fe dy ca ++ wRw Z n rw p h f t) ++ wPl Z L) (by simp only [List.append_assoc, List.append_nil, List.nil_append]) ?_
      refine J_cVb (As := [.int (ofN n dy p h f t fu (kdA q)), .int (ofN n dy p h f t fu (kdB q))]) (st := []) (rc2 := 0) (rs2 := 0) (w0 := (wPl Z L)) (q0 := i) C iX10_of_261 lm_X10_54 yc_X10_ofTwo yv_X10_ofTwo (c_X10_ofTwo (i := i) (x := ofN n dy p h f t fu (kdA q)) (y := ofN n dy p h f t fu (kdB q)) hi9 (by decide) (by decide)) rfl rfl (wPl_at hi9) (wSim Z s n m hA lA oA tA eA (fun j => some (rw j)) (fun j => some (lr j)) fo ft fe dy ca ++ wRw Z n rw p h f t) [] (by simp only [List.append_assoc, List.append_nil, List.nil_append]) rfl (rmK_le (by omega) (by decide)) (Nat.le_of_ble_eq_true rfl) (Nat.zero_add _).symm (Nat.zero_add _).symm ?_
      rintro _ _ ⟨rfl, rfl⟩
      refine J_st (.int (twN 22 (ofN n dy p h f t fu (kdA q)) (ofN n dy p h f t fu (kdB q))) :: []) rfl ?_
      refine J_ws ((wSim Z s n m hA lA oA tA eA (fun j => some (rw j)) (fun j => some (lr j)) fo ft fe dy ca ++ wRw Z n rw p h f t) ++ wPl Z L) (by simp only [List.append_assoc, List.append_nil, List.nil_append]) ?_
      exact J_iret C E iX10_of_264 ⟨congrArg (fun z => some (Value.int z)) (show (twN 22 (ofN n dy p h f t fu (kdA q)) (ofN n dy p h f t fu (kdB q)) : Int32) = ofN n dy p h f t (fu + 1) q by rw [ofN, if_neg (by omega), if_neg (by omega), if_pos (by rw [hk]; rfl), hk]), rfl⟩
    · rw [hk] at hi9 hbA hbB
      have hnm := nm_lt hn (q := q) (by omega)
      obtain ⟨xa, rfl, hxa⟩ := hbA rfl
      obtain ⟨xb, rfl, hxb⟩ := hbB rfl
      refine Ct.ofJ (own := RX10) (nm := "of") (lv0 := [(0, .ref a), (1, .ref s)]) (by decide) rfl rfl (Nat.le_of_ble_eq_true rfl) rfl (fun X hXl C E => ?_)
      subst hXl
      refine J_room (rc2 := 0) (rs2 := 0) (Nat.le_refl _) (Nat.le_refl _) ?_
      refine J_aload_n C iX10_of_0 rfl rfl ?_
      refine J_get (.int 23) (((wSim Z s n m hA lA oA tA eA (fun j => some (rw j)) (fun j => some (lr j)) fo ft fe dy ca ++ wRw Z n rw p h f t)).length + i) C iX10_of_1 gf_X10_7 (mid_at (A := (wSim Z s n m hA lA oA tA eA (fun j => some (rw j)) (fun j => some (lr j)) fo ft fe dy ca ++ wRw Z n rw p h f t)) (M := wPl Z L) (B := []) (by simp only [List.append_assoc, List.append_nil, List.nil_append]) (wPl_at hi9)) rfl ?_
      refine J_tabIn 244 C iX10_of_4 (by decide) (by decide) rfl rfl ?_
      refine J_aload_n C iX10_of_244 rfl rfl ?_
      refine J_aload_n C iX10_of_245 rfl rfl ?_
      refine J_get (.ref xa) (((wSim Z s n m hA lA oA tA eA (fun j => some (rw j)) (fun j => some (lr j)) fo ft fe dy ca ++ wRw Z n rw p h f t)).length + i) C iX10_of_246 gf_X10_36 (mid_at (A := (wSim Z s n m hA lA oA tA eA (fun j => some (rw j)) (fun j => some (lr j)) fo ft fe dy ca ++ wRw Z n rw p h f t)) (M := wPl Z L) (B := []) (by simp only [List.append_assoc, List.append_nil, List.nil_append]) (wPl_at hi9)) rfl ?_
      refine J_aload_n C iX10_of_249 rfl rfl ?_
      obtain ⟨j1, e1, f1⟩ := InT.at hxa
      refine J_cVb (As := [.ref s]) (st := .ref a :: []) (rc2 := 0) (rs2 := 0) (w0 := ((wSim Z s n m hA lA oA tA eA (fun j => some (rw j)) (fun j => some (lr j)) fo ft fe dy ca ++ wRw Z n rw p h f t) ++ wPl Z L)) (q0 := ((wSim Z s n m hA lA oA tA eA (fun j => some (rw j)) (fun j => some (lr j)) fo ft fe dy ca ++ wRw Z n rw p h f t)).length + j1) C iX10_of_250 lm_X10_40 yc_X10_of yv_X10_of (ih (q := kdA q) hxa) rfl rfl (mid_at (A := (wSim Z s n m hA lA oA tA eA (fun j => some (rw j)) (fun j => some (lr j)) fo ft fe dy ca ++ wRw Z n rw p h f t)) (M := wPl Z L) (B := []) (by simp only [List.append_assoc, List.append_nil, List.nil_append]) (wPl_at f1)) [] [] (by simp only [List.append_assoc, List.append_nil, List.nil_append]) rfl (rmK_le (by omega) (by decide)) (Nat.le_of_ble_eq_true rfl) (Nat.zero_add _).symm (Nat.zero_add _).symm ?_
      rintro _ _ ⟨rfl, rfl⟩
      refine J_st (.int (ofN n dy p h f t fu (kdA q)) :: .ref a :: []) rfl ?_
      refine J_ws ((wSim Z s n m hA lA oA tA eA (fun j => some (rw j)) (fun j => some (lr j)) fo ft fe dy ca ++ wRw Z n rw p h f t) ++ wPl Z L) (by simp only [List.append_assoc, List.append_nil, List.nil_append]) ?_
      refine J_aload_n C iX10_of_253 rfl rfl ?_
      refine J_get (.ref xb) (((wSim Z s n m hA lA oA tA eA (fun j => some (rw j)) (fun j => some (lr j)) fo ft fe dy ca ++ wRw Z n rw p h f t)).length + i) C iX10_of_254 gf_X10_51 (mid_at (A := (wSim Z s n m hA lA oA tA eA (fun j => some (rw j)) (fun j => some (lr j)) fo ft fe dy ca ++ wRw Z n rw p h f t)) (M := wPl Z L) (B := []) (by simp only [List.append_assoc, List.append_nil, List.nil_append]) (wPl_at hi9)) rfl ?_
      refine J_aload_n C iX10_of_257 rfl rfl ?_
      obtain ⟨j2, e2, f2⟩ := InT.at hxb
      refine J_cVb (As := [.ref s]) (st := .int (ofN n dy p h f t fu (kdA q)) :: .ref a :: []) (rc2 := 0) (rs2 := 0) (w0 := ((wSim Z s n m hA lA oA tA eA (fun j => some (rw j)) (fun j => some (lr j)) fo ft fe dy ca ++ wRw Z n rw p h f t) ++ wPl Z L)) (q0 := ((wSim Z s n m hA lA oA tA eA (fun j => some (rw j)) (fun j => some (lr j)) fo ft fe dy ca ++ wRw Z n rw p h f t)).length + j2) C iX10_of_258 lm_X10_40 yc_X10_of yv_X10_of (ih (q := kdB q) hxb) rfl rfl (mid_at (A := (wSim Z s n m hA lA oA tA eA (fun j => some (rw j)) (fun j => some (lr j)) fo ft fe dy ca ++ wRw Z n rw p h f t)) (M := wPl Z L) (B := []) (by simp only [List.append_assoc, List.append_nil, List.nil_append]) (wPl_at f2)) [] [] (by simp only [List.append_assoc, List.append_nil, List.nil_append]) rfl (rmK_le (by omega) (by decide)) (Nat.le_of_ble_eq_true rfl) (Nat.zero_add _).symm (Nat.zero_add _).symm ?_
      rintro _ _ ⟨rfl, rfl⟩
      refine J_st (.int (ofN n dy p h f t fu (kdB q)) :: .int (ofN n dy p h f t fu (kdA q)) :: .ref a :: []) rfl ?_
      refine J_ws ((wSim Z s n m hA lA oA tA eA (fun j => some (rw j)) (fun j => some (lr j)) fo ft fe dy ca ++ wRw Z n rw p h f t) ++ wPl Z L) (by simp only [List.append_assoc, List.append_nil, List.nil_append]) ?_
      refine J_cVb (As := [.int (ofN n dy p h f t fu (kdA q)), .int (ofN n dy p h f t fu (kdB q))]) (st := []) (rc2 := 0) (rs2 := 0) (w0 := (wPl Z L)) (q0 := i) C iX10_of_261 lm_X10_54 yc_X10_ofTwo yv_X10_ofTwo (c_X10_ofTwo (i := i) (x := ofN n dy p h f t fu (kdA q)) (y := ofN n dy p h f t fu (kdB q)) hi9 (by decide) (by decide)) rfl rfl (wPl_at hi9) (wSim Z s n m hA lA oA tA eA (fun j => some (rw j)) (fun j => some (lr j)) fo ft fe dy ca ++ wRw Z n rw p h f t) [] (by simp only [List.append_assoc, List.append_nil, List.nil_append]) rfl (rmK_le (by omega) (by decide)) (Nat.le_of_ble_eq_true rfl) (Nat.zero_add _).symm (Nat.zero_add _).symm ?_
      rintro _ _ ⟨rfl, rfl⟩
      refine J_st (.int (twN 23 (ofN n dy p h f t fu (kdA q)) (ofN n dy p h f t fu (kdB q))) :: []) rfl ?_
      refine J_ws ((wSim Z s n m hA lA oA tA eA (fun j => some (rw j)) (fun j => some (lr j)) fo ft fe dy ca ++ wRw Z n rw p h f t) ++ wPl Z L) (by simp only [List.append_assoc, List.append_nil, List.nil_append]) ?_
      exact J_iret C E iX10_of_264 ⟨congrArg (fun z => some (Value.int z)) (show (twN 23 (ofN n dy p h f t fu (kdA q)) (ofN n dy p h f t fu (kdB q)) : Int32) = ofN n dy p h f t (fu + 1) q by rw [ofN, if_neg (by omega), if_neg (by omega), if_pos (by rw [hk]; rfl), hk]), rfl⟩
    · rw [hk] at hi9 hbA hbB
      have hnm := nm_lt hn (q := q) (by omega)
      obtain ⟨xa, rfl, hxa⟩ := hbA rfl
      obtain ⟨xb, rfl, hxb⟩ := hbB rfl
      refine Ct.ofJ (own := RX10) (nm := "of") (lv0 := [(0, .ref a), (1, .ref s)]) (by decide) rfl rfl (Nat.le_of_ble_eq_true rfl) rfl (fun X hXl C E => ?_)
      subst hXl
      refine J_room (rc2 := 0) (rs2 := 0) (Nat.le_refl _) (Nat.le_refl _) ?_
      refine J_aload_n C iX10_of_0 rfl rfl ?_
      refine J_get (.int 24) (((wSim Z s n m hA lA oA tA eA (fun j => some (rw j)) (fun j => some (lr j)) fo ft fe dy ca ++ wRw Z n rw p h f t)).length + i) C iX10_of_1 gf_X10_7 (mid_at (A := (wSim Z s n m hA lA oA tA eA (fun j => some (rw j)) (fun j => some (lr j)) fo ft fe dy ca ++ wRw Z n rw p h f t)) (M := wPl Z L) (B := []) (by simp only [List.append_assoc, List.append_nil, List.nil_append]) (wPl_at hi9)) rfl ?_
      refine J_tabIn 244 C iX10_of_4 (by decide) (by decide) rfl rfl ?_
      refine J_aload_n C iX10_of_244 rfl rfl ?_
      refine J_aload_n C iX10_of_245 rfl rfl ?_
      refine J_get (.ref xa) (((wSim Z s n m hA lA oA tA eA (fun j => some (rw j)) (fun j => some (lr j)) fo ft fe dy ca ++ wRw Z n rw p h f t)).length + i) C iX10_of_246 gf_X10_36 (mid_at (A := (wSim Z s n m hA lA oA tA eA (fun j => some (rw j)) (fun j => some (lr j)) fo ft fe dy ca ++ wRw Z n rw p h f t)) (M := wPl Z L) (B := []) (by simp only [List.append_assoc, List.append_nil, List.nil_append]) (wPl_at hi9)) rfl ?_
      refine J_aload_n C iX10_of_249 rfl rfl ?_
      obtain ⟨j1, e1, f1⟩ := InT.at hxa
      refine J_cVb (As := [.ref s]) (st := .ref a :: []) (rc2 := 0) (rs2 := 0) (w0 := ((wSim Z s n m hA lA oA tA eA (fun j => some (rw j)) (fun j => some (lr j)) fo ft fe dy ca ++ wRw Z n rw p h f t) ++ wPl Z L)) (q0 := ((wSim Z s n m hA lA oA tA eA (fun j => some (rw j)) (fun j => some (lr j)) fo ft fe dy ca ++ wRw Z n rw p h f t)).length + j1) C iX10_of_250 lm_X10_40 yc_X10_of yv_X10_of (ih (q := kdA q) hxa) rfl rfl (mid_at (A := (wSim Z s n m hA lA oA tA eA (fun j => some (rw j)) (fun j => some (lr j)) fo ft fe dy ca ++ wRw Z n rw p h f t)) (M := wPl Z L) (B := []) (by simp only [List.append_assoc, List.append_nil, List.nil_append]) (wPl_at f1)) [] [] (by simp only [List.append_assoc, List.append_nil, List.nil_append]) rfl (rmK_le (by omega) (by decide)) (Nat.le_of_ble_eq_true rfl) (Nat.zero_add _).symm (Nat.zero_add _).symm ?_
      rintro _ _ ⟨rfl, rfl⟩
      refine J_st (.int (ofN n dy p h f t fu (kdA q)) :: .ref a :: []) rfl ?_
      refine J_ws ((wSim Z s n m hA lA oA tA eA (fun j => some (rw j)) (fun j => some (lr j)) fo ft fe dy ca ++ wRw Z n rw p h f t) ++ wPl Z L) (by simp only [List.append_assoc, List.append_nil, List.nil_append]) ?_
      refine J_aload_n C iX10_of_253 rfl rfl ?_
      refine J_get (.ref xb) (((wSim Z s n m hA lA oA tA eA (fun j => some (rw j)) (fun j => some (lr j)) fo ft fe dy ca ++ wRw Z n rw p h f t)).length + i) C iX10_of_254 gf_X10_51 (mid_at (A := (wSim Z s n m hA lA oA tA eA (fun j => some (rw j)) (fun j => some (lr j)) fo ft fe dy ca ++ wRw Z n rw p h f t)) (M := wPl Z L) (B := []) (by simp only [List.append_assoc, List.append_nil, List.nil_append]) (wPl_at hi9)) rfl ?_
      refine J_aload_n C iX10_of_257 rfl rfl ?_
      obtain ⟨j2, e2, f2⟩ := InT.at hxb
      refine J_cVb (As := [.ref s]) (st := .int (ofN n dy p h f t fu (kdA q)) :: .ref a :: []) (rc2 := 0) (rs2 := 0) (w0 := ((wSim Z s n m hA lA oA tA eA (fun j => some (rw j)) (fun j => some (lr j)) fo ft fe dy ca ++ wRw Z n rw p h f t) ++ wPl Z L)) (q0 := ((wSim Z s n m hA lA oA tA eA (fun j => some (rw j)) (fun j => some (lr j)) fo ft fe dy ca ++ wRw Z n rw p h f t)).length + j2) C iX10_of_258 lm_X10_40 yc_X10_of yv_X10_of (ih (q := kdB q) hxb) rfl rfl (mid_at (A := (wSim Z s n m hA lA oA tA eA (fun j => some (rw j)) (fun j => some (lr j)) fo ft fe dy ca ++ wRw Z n rw p h f t)) (M := wPl Z L) (B := []) (by simp only [List.append_assoc, List.append_nil, List.nil_append]) (wPl_at f2)) [] [] (by simp only [List.append_assoc, List.append_nil, List.nil_append]) rfl (rmK_le (by omega) (by decide)) (Nat.le_of_ble_eq_true rfl) (Nat.zero_add _).symm (Nat.zero_add _).symm ?_
      rintro _ _ ⟨rfl, rfl⟩
      refine J_st (.int (ofN n dy p h f t fu (kdB q)) :: .int (ofN n dy p h f t fu (kdA q)) :: .ref a :: []) rfl ?_
      refine J_ws ((wSim Z s n m hA lA oA tA eA (fun j => some (rw j)) (fun j => some (lr j)) fo ft fe dy ca ++ wRw Z n rw p h f t) ++ wPl Z L) (by simp only [List.append_assoc, List.append_nil, List.nil_append]) ?_
      refine J_cVb (As := [.int (ofN n dy p h f t fu (kdA q)), .int (ofN n dy p h f t fu (kdB q))]) (st := []) (rc2 := 0) (rs2 := 0) (w0 := (wPl Z L)) (q0 := i) C iX10_of_261 lm_X10_54 yc_X10_ofTwo yv_X10_ofTwo (c_X10_ofTwo (i := i) (x := ofN n dy p h f t fu (kdA q)) (y := ofN n dy p h f t fu (kdB q)) hi9 (by decide) (by decide)) rfl rfl (wPl_at hi9) (wSim Z s n m hA lA oA tA eA (fun j => some (rw j)) (fun j => some (lr j)) fo ft fe dy ca ++ wRw Z n rw p h f t) [] (by simp only [List.append_assoc, List.append_nil, List.nil_append]) rfl (rmK_le (by omega) (by decide)) (Nat.le_of_ble_eq_true rfl) (Nat.zero_add _).symm (Nat.zero_add _).symm ?_
      rintro _ _ ⟨rfl, rfl⟩
      refine J_st (.int (twN 24 (ofN n dy p h f t fu (kdA q)) (ofN n dy p h f t fu (kdB q))) :: []) rfl ?_
      refine J_ws ((wSim Z s n m hA lA oA tA eA (fun j => some (rw j)) (fun j => some (lr j)) fo ft fe dy ca ++ wRw Z n rw p h f t) ++ wPl Z L) (by simp only [List.append_assoc, List.append_nil, List.nil_append]) ?_
      exact J_iret C E iX10_of_264 ⟨congrArg (fun z => some (Value.int z)) (show (twN 24 (ofN n dy p h f t fu (kdA q)) (ofN n dy p h f t fu (kdB q)) : Int32) = ofN n dy p h f t (fu + 1) q by rw [ofN, if_neg (by omega), if_neg (by omega), if_pos (by rw [hk]; rfl), hk]), rfl⟩
    · rw [hk] at hi9 hbA hbB
      have hnm := nm_lt hn (q := q) (by omega)
      have hot := ot_lt hn q
      refine Ct.ofJ (own := RX10) (nm := "of") (lv0 := [(0, .ref a), (1, .ref s)]) (by decide) rfl rfl (Nat.le_of_ble_eq_true rfl) rfl (fun X hXl C E => ?_)
      subst hXl
      refine J_room (rc2 := 0) (rs2 := 0) (Nat.le_refl _) (Nat.le_refl _) ?_
      refine J_aload_n C iX10_of_0 rfl rfl ?_
      refine J_get (.int 25) (((wSim Z s n m hA lA oA tA eA (fun j => some (rw j)) (fun j => some (lr j)) fo ft fe dy ca ++ wRw Z n rw p h f t)).length + i) C iX10_of_1 gf_X10_7 (mid_at (A := (wSim Z s n m hA lA oA tA eA (fun j => some (rw j)) (fun j => some (lr j)) fo ft fe dy ca ++ wRw Z n rw p h f t)) (M := wPl Z L) (B := []) (by simp only [List.append_assoc, List.append_nil, List.nil_append]) (wPl_at hi9)) rfl ?_
      refine J_tabIn 195 C iX10_of_4 (by decide) (by decide) rfl rfl ?_
      refine J_aload_n C iX10_of_195 rfl rfl ?_
      refine J_aload_n C iX10_of_196 rfl rfl ?_
      refine J_get (.int (nI (otN n q))) (((wSim Z s n m hA lA oA tA eA (fun j => some (rw j)) (fun j => some (lr j)) fo ft fe dy ca ++ wRw Z n rw p h f t)).length + i) C iX10_of_197 gf_X10_44 (mid_at (A := (wSim Z s n m hA lA oA tA eA (fun j => some (rw j)) (fun j => some (lr j)) fo ft fe dy ca ++ wRw Z n rw p h f t)) (M := wPl Z L) (B := []) (by simp only [List.append_assoc, List.append_nil, List.nil_append]) (wPl_at hi9)) rfl ?_
      refine J_aload_n C iX10_of_200 rfl rfl ?_
      refine J_get (.int (nI (nuQ n q))) (((wSim Z s n m hA lA oA tA eA (fun j => some (rw j)) (fun j => some (lr j)) fo ft fe dy ca ++ wRw Z n rw p h f t)).length + i) C iX10_of_201 gf_X10_13 (mid_at (A := (wSim Z s n m hA lA oA tA eA (fun j => some (rw j)) (fun j => some (lr j)) fo ft fe dy ca ++ wRw Z n rw p h f t)) (M := wPl Z L) (B := []) (by simp only [List.append_assoc, List.append_nil, List.nil_append]) (wPl_at hi9)) rfl ?_
      refine J_cVb (As := [.int (nI (otN n q)), .int (nI (nuQ n q))]) (st := []) (rc2 := 0) (rs2 := 0) (w0 := (wSim Z s n m hA lA oA tA eA (fun j => some (rw j)) (fun j => some (lr j)) fo ft fe dy ca ++ wRw Z n rw p h f t)) (q0 := 0) C iX10_of_204 lm_X10_47 yc_X9_lostTo yv_X9_lostTo (c_X9_lostTo (a := (otN n q)) (b := (nuQ n q)) ok (by omega) (by omega)) rfl rfl rfl [] (wPl Z L) (by simp only [List.append_assoc, List.append_nil, List.nil_append]) rfl (rmK_le (by omega) (by decide)) (Nat.le_of_ble_eq_true rfl) (Nat.zero_add _).symm (Nat.zero_add _).symm ?_
      rintro _ _ ⟨rfl, rfl⟩
      refine J_st (.int (nI (ltN p h f t (otN n q) (nuQ n q))) :: []) rfl ?_
      refine J_ws ((wSim Z s n m hA lA oA tA eA (fun j => some (rw j)) (fun j => some (lr j)) fo ft fe dy ca ++ wRw Z n rw p h f t) ++ wPl Z L) (by simp only [List.append_assoc, List.append_nil, List.nil_append]) ?_
      refine J_ifle 214 C iX10_of_207 rfl (fun h207 => ?_) (fun h207 => ?_)
      · refine J_iconst 0 C iX10_of_214 rfl ?_
        exact J_iret C E iX10_of_215 ⟨congrArg (fun z => some (Value.int z)) (show (0 : Int32) = ofN n dy p h f t (fu + 1) q by rw [ofN, if_neg (by omega), if_neg (by omega), if_neg (by rw [hk]; decide), lfN, if_neg (by omega), if_neg (by omega), if_neg (by omega), if_neg (by omega), if_neg (by omega), if_neg (by omega), if_pos hk, if_pos (by have h8 := ltN_le p h f t (otN n q) (nuQ n q); have h9 := (nI_leI (a := ltN p h f t (otN n q) (nuQ n q)) (b := 0) (by omega) (by decide)).mp h207; omega)]), rfl⟩
      · refine J_iconst 1 C iX10_of_210 rfl ?_
        refine J_goto 215 C iX10_of_211 rfl ?_
        exact J_iret C E iX10_of_215 ⟨congrArg (fun z => some (Value.int z)) (show (1 : Int32) = ofN n dy p h f t (fu + 1) q by rw [ofN, if_neg (by omega), if_neg (by omega), if_neg (by rw [hk]; decide), lfN, if_neg (by omega), if_neg (by omega), if_neg (by omega), if_neg (by omega), if_neg (by omega), if_neg (by omega), if_pos hk, if_neg (by have h8 := ltN_le p h f t (otN n q) (nuQ n q); intro e9; exact h207 (by rw [e9]; decide))]), rfl⟩
    · rw [hk] at hi9 hbA hbB
      have hnm := nm_lt hn (q := q) (by omega)
      refine Ct.ofJ (own := RX10) (nm := "of") (lv0 := [(0, .ref a), (1, .ref s)]) (by decide) rfl rfl (Nat.le_of_ble_eq_true rfl) rfl (fun X hXl C E => ?_)
      subst hXl
      refine J_room (rc2 := 0) (rs2 := 0) (Nat.le_refl _) (Nat.le_refl _) ?_
      refine J_aload_n C iX10_of_0 rfl rfl ?_
      refine J_get (.int 26) (((wSim Z s n m hA lA oA tA eA (fun j => some (rw j)) (fun j => some (lr j)) fo ft fe dy ca ++ wRw Z n rw p h f t)).length + i) C iX10_of_1 gf_X10_7 (mid_at (A := (wSim Z s n m hA lA oA tA eA (fun j => some (rw j)) (fun j => some (lr j)) fo ft fe dy ca ++ wRw Z n rw p h f t)) (M := wPl Z L) (B := []) (by simp only [List.append_assoc, List.append_nil, List.nil_append]) (wPl_at hi9)) rfl ?_
      refine J_tabIn 216 C iX10_of_4 (by decide) (by decide) rfl rfl ?_
      refine J_aload_n C iX10_of_216 rfl rfl ?_
      refine J_aload_n C iX10_of_217 rfl rfl ?_
      refine J_get (.int (nI (nuQ n q))) (((wSim Z s n m hA lA oA tA eA (fun j => some (rw j)) (fun j => some (lr j)) fo ft fe dy ca ++ wRw Z n rw p h f t)).length + i) C iX10_of_218 gf_X10_13 (mid_at (A := (wSim Z s n m hA lA oA tA eA (fun j => some (rw j)) (fun j => some (lr j)) fo ft fe dy ca ++ wRw Z n rw p h f t)) (M := wPl Z L) (B := []) (by simp only [List.append_assoc, List.append_nil, List.nil_append]) (wPl_at hi9)) rfl ?_
      refine J_cVb (As := [.int (nI (nuQ n q))]) (st := []) (rc2 := 0) (rs2 := 0) (w0 := (wSim Z s n m hA lA oA tA eA (fun j => some (rw j)) (fun j => some (lr j)) fo ft fe dy ca ++ wRw Z n rw p h f t)) (q0 := 0) C iX10_of_221 lm_X10_25 yc_X9_lost yv_X9_lost (c_X9_lost (a := (nuQ n q)) ok (by omega)) rfl rfl rfl [] (wPl Z L) (by simp only [List.append_assoc, List.append_nil, List.nil_append]) rfl (rmK_le (by omega) (by decide)) (Nat.le_of_ble_eq_true rfl) (Nat.zero_add _).symm (Nat.zero_add _).symm ?_
      rintro _ _ ⟨rfl, rfl⟩
      refine J_st (.int (nI (loN p h f t n (nuQ n q))) :: []) rfl ?_
      refine J_ws ((wSim Z s n m hA lA oA tA eA (fun j => some (rw j)) (fun j => some (lr j)) fo ft fe dy ca ++ wRw Z n rw p h f t) ++ wPl Z L) (by simp only [List.append_assoc, List.append_nil, List.nil_append]) ?_
      refine J_ifle 231 C iX10_of_224 rfl (fun h224 => ?_) (fun h224 => ?_)
      · refine J_iconst 0 C iX10_of_231 rfl ?_
        exact J_iret C E iX10_of_232 ⟨congrArg (fun z => some (Value.int z)) (show (0 : Int32) = ofN n dy p h f t (fu + 1) q by rw [ofN, if_neg (by omega), if_neg (by omega), if_neg (by rw [hk]; decide), lfN, if_neg (by omega), if_neg (by omega), if_neg (by omega), if_neg (by omega), if_neg (by omega), if_neg (by omega), if_neg (by omega), if_pos (by have h8 := loN_le p h f t n (nuQ n q); have h9 := (nI_leI (a := loN p h f t n (nuQ n q)) (b := 0) (by omega) (by decide)).mp h224; omega)]), rfl⟩
      · refine J_iconst 1 C iX10_of_227 rfl ?_
        refine J_goto 232 C iX10_of_228 rfl ?_
        exact J_iret C E iX10_of_232 ⟨congrArg (fun z => some (Value.int z)) (show (1 : Int32) = ofN n dy p h f t (fu + 1) q by rw [ofN, if_neg (by omega), if_neg (by omega), if_neg (by rw [hk]; decide), lfN, if_neg (by omega), if_neg (by omega), if_neg (by omega), if_neg (by omega), if_neg (by omega), if_neg (by omega), if_neg (by omega), if_neg (by have h8 := loN_le p h f t n (nuQ n q); intro e9; exact h224 (by rw [e9]; decide))]), rfl⟩
    · rw [hk] at hi9 hbA hbB
      have hnm := nm_lt hn (q := q) (by omega)
      obtain ⟨xa, rfl, hxa⟩ := hbA rfl
      refine Ct.ofJ (own := RX10) (nm := "of") (lv0 := [(0, .ref a), (1, .ref s)]) (by decide) rfl rfl (Nat.le_of_ble_eq_true rfl) rfl (fun X hXl C E => ?_)
      subst hXl
      refine J_room (rc2 := 0) (rs2 := 0) (Nat.le_refl _) (Nat.le_refl _) ?_
      refine J_aload_n C iX10_of_0 rfl rfl ?_
      refine J_get (.int 29) (((wSim Z s n m hA lA oA tA eA (fun j => some (rw j)) (fun j => some (lr j)) fo ft fe dy ca ++ wRw Z n rw p h f t)).length + i) C iX10_of_1 gf_X10_7 (mid_at (A := (wSim Z s n m hA lA oA tA eA (fun j => some (rw j)) (fun j => some (lr j)) fo ft fe dy ca ++ wRw Z n rw p h f t)) (M := wPl Z L) (B := []) (by simp only [List.append_assoc, List.append_nil, List.nil_append]) (wPl_at hi9)) rfl ?_
      refine J_tabIn 233 C iX10_of_4 (by decide) (by decide) rfl rfl ?_
      refine J_iconst 1 C iX10_of_233 rfl ?_
      refine J_aload_n C iX10_of_234 rfl rfl ?_
      refine J_get (.ref xa) (((wSim Z s n m hA lA oA tA eA (fun j => some (rw j)) (fun j => some (lr j)) fo ft fe dy ca ++ wRw Z n rw p h f t)).length + i) C iX10_of_235 gf_X10_36 (mid_at (A := (wSim Z s n m hA lA oA tA eA (fun j => some (rw j)) (fun j => some (lr j)) fo ft fe dy ca ++ wRw Z n rw p h f t)) (M := wPl Z L) (B := []) (by simp only [List.append_assoc, List.append_nil, List.nil_append]) (wPl_at hi9)) rfl ?_
      refine J_aload_n C iX10_of_238 rfl rfl ?_
      obtain ⟨j1, e1, f1⟩ := InT.at hxa
      refine J_cVb (As := [.ref s]) (st := .int 1 :: []) (rc2 := 0) (rs2 := 0) (w0 := ((wSim Z s n m hA lA oA tA eA (fun j => some (rw j)) (fun j => some (lr j)) fo ft fe dy ca ++ wRw Z n rw p h f t) ++ wPl Z L)) (q0 := ((wSim Z s n m hA lA oA tA eA (fun j => some (rw j)) (fun j => some (lr j)) fo ft fe dy ca ++ wRw Z n rw p h f t)).length + j1) C iX10_of_239 lm_X10_40 yc_X10_of yv_X10_of (ih (q := kdA q) hxa) rfl rfl (mid_at (A := (wSim Z s n m hA lA oA tA eA (fun j => some (rw j)) (fun j => some (lr j)) fo ft fe dy ca ++ wRw Z n rw p h f t)) (M := wPl Z L) (B := []) (by simp only [List.append_assoc, List.append_nil, List.nil_append]) (wPl_at f1)) [] [] (by simp only [List.append_assoc, List.append_nil, List.nil_append]) rfl (rmK_le (by omega) (by decide)) (Nat.le_of_ble_eq_true rfl) (Nat.zero_add _).symm (Nat.zero_add _).symm ?_
      rintro _ _ ⟨rfl, rfl⟩
      refine J_st (.int (ofN n dy p h f t fu (kdA q)) :: .int 1 :: []) rfl ?_
      refine J_ws ((wSim Z s n m hA lA oA tA eA (fun j => some (rw j)) (fun j => some (lr j)) fo ft fe dy ca ++ wRw Z n rw p h f t) ++ wPl Z L) (by simp only [List.append_assoc, List.append_nil, List.nil_append]) ?_
      refine J_isub C iX10_of_242 ?_
      exact J_iret C E iX10_of_243 ⟨congrArg (fun z => some (Value.int z)) (show (1 - (ofN n dy p h f t fu (kdA q)) : Int32) = ofN n dy p h f t (fu + 1) q by rw [ofN, if_neg (by omega), if_pos hk]), rfl⟩
    · rw [hk] at hi9 hbA hbB
      have hnm := nm_lt hn (q := q) (by omega)
      obtain ⟨xa, rfl, hxa⟩ := hbA rfl
      obtain ⟨xb, rfl, hxb⟩ := hbB rfl
      refine Ct.ofJ (own := RX10) (nm := "of") (lv0 := [(0, .ref a), (1, .ref s)]) (by decide) rfl rfl (Nat.le_of_ble_eq_true rfl) rfl (fun X hXl C E => ?_)
      subst hXl
      refine J_room (rc2 := 0) (rs2 := 0) (Nat.le_refl _) (Nat.le_refl _) ?_
      refine J_aload_n C iX10_of_0 rfl rfl ?_
      refine J_get (.int 30) (((wSim Z s n m hA lA oA tA eA (fun j => some (rw j)) (fun j => some (lr j)) fo ft fe dy ca ++ wRw Z n rw p h f t)).length + i) C iX10_of_1 gf_X10_7 (mid_at (A := (wSim Z s n m hA lA oA tA eA (fun j => some (rw j)) (fun j => some (lr j)) fo ft fe dy ca ++ wRw Z n rw p h f t)) (M := wPl Z L) (B := []) (by simp only [List.append_assoc, List.append_nil, List.nil_append]) (wPl_at hi9)) rfl ?_
      refine J_tabOut 244 C iX10_of_4 (by decide) rfl ?_
      refine J_aload_n C iX10_of_244 rfl rfl ?_
      refine J_aload_n C iX10_of_245 rfl rfl ?_
      refine J_get (.ref xa) (((wSim Z s n m hA lA oA tA eA (fun j => some (rw j)) (fun j => some (lr j)) fo ft fe dy ca ++ wRw Z n rw p h f t)).length + i) C iX10_of_246 gf_X10_36 (mid_at (A := (wSim Z s n m hA lA oA tA eA (fun j => some (rw j)) (fun j => some (lr j)) fo ft fe dy ca ++ wRw Z n rw p h f t)) (M := wPl Z L) (B := []) (by simp only [List.append_assoc, List.append_nil, List.nil_append]) (wPl_at hi9)) rfl ?_
      refine J_aload_n C iX10_of_249 rfl rfl ?_
      obtain ⟨j1, e1, f1⟩ := InT.at hxa
      refine J_cVb (As := [.ref s]) (st := .ref a :: []) (rc2 := 0) (rs2 := 0) (w0 := ((wSim Z s n m hA lA oA tA eA (fun j => some (rw j)) (fun j => some (lr j)) fo ft fe dy ca ++ wRw Z n rw p h f t) ++ wPl Z L)) (q0 := ((wSim Z s n m hA lA oA tA eA (fun j => some (rw j)) (fun j => some (lr j)) fo ft fe dy ca ++ wRw Z n rw p h f t)).length + j1) C iX10_of_250 lm_X10_40 yc_X10_of yv_X10_of (ih (q := kdA q) hxa) rfl rfl (mid_at (A := (wSim Z s n m hA lA oA tA eA (fun j => some (rw j)) (fun j => some (lr j)) fo ft fe dy ca ++ wRw Z n rw p h f t)) (M := wPl Z L) (B := []) (by simp only [List.append_assoc, List.append_nil, List.nil_append]) (wPl_at f1)) [] [] (by simp only [List.append_assoc, List.append_nil, List.nil_append]) rfl (rmK_le (by omega) (by decide)) (Nat.le_of_ble_eq_true rfl) (Nat.zero_add _).symm (Nat.zero_add _).symm ?_
      rintro _ _ ⟨rfl, rfl⟩
      refine J_st (.int (ofN n dy p h f t fu (kdA q)) :: .ref a :: []) rfl ?_
      refine J_ws ((wSim Z s n m hA lA oA tA eA (fun j => some (rw j)) (fun j => some (lr j)) fo ft fe dy ca ++ wRw Z n rw p h f t) ++ wPl Z L) (by simp only [List.append_assoc, List.append_nil, List.nil_append]) ?_
      refine J_aload_n C iX10_of_253 rfl rfl ?_
      refine J_get (.ref xb) (((wSim Z s n m hA lA oA tA eA (fun j => some (rw j)) (fun j => some (lr j)) fo ft fe dy ca ++ wRw Z n rw p h f t)).length + i) C iX10_of_254 gf_X10_51 (mid_at (A := (wSim Z s n m hA lA oA tA eA (fun j => some (rw j)) (fun j => some (lr j)) fo ft fe dy ca ++ wRw Z n rw p h f t)) (M := wPl Z L) (B := []) (by simp only [List.append_assoc, List.append_nil, List.nil_append]) (wPl_at hi9)) rfl ?_
      refine J_aload_n C iX10_of_257 rfl rfl ?_
      obtain ⟨j2, e2, f2⟩ := InT.at hxb
      refine J_cVb (As := [.ref s]) (st := .int (ofN n dy p h f t fu (kdA q)) :: .ref a :: []) (rc2 := 0) (rs2 := 0) (w0 := ((wSim Z s n m hA lA oA tA eA (fun j => some (rw j)) (fun j => some (lr j)) fo ft fe dy ca ++ wRw Z n rw p h f t) ++ wPl Z L)) (q0 := ((wSim Z s n m hA lA oA tA eA (fun j => some (rw j)) (fun j => some (lr j)) fo ft fe dy ca ++ wRw Z n rw p h f t)).length + j2) C iX10_of_258 lm_X10_40 yc_X10_of yv_X10_of (ih (q := kdB q) hxb) rfl rfl (mid_at (A := (wSim Z s n m hA lA oA tA eA (fun j => some (rw j)) (fun j => some (lr j)) fo ft fe dy ca ++ wRw Z n rw p h f t)) (M := wPl Z L) (B := []) (by simp only [List.append_assoc, List.append_nil, List.nil_append]) (wPl_at f2)) [] [] (by simp only [List.append_assoc, List.append_nil, List.nil_append]) rfl (rmK_le (by omega) (by decide)) (Nat.le_of_ble_eq_true rfl) (Nat.zero_add _).symm (Nat.zero_add _).symm ?_
      rintro _ _ ⟨rfl, rfl⟩
      refine J_st (.int (ofN n dy p h f t fu (kdB q)) :: .int (ofN n dy p h f t fu (kdA q)) :: .ref a :: []) rfl ?_
      refine J_ws ((wSim Z s n m hA lA oA tA eA (fun j => some (rw j)) (fun j => some (lr j)) fo ft fe dy ca ++ wRw Z n rw p h f t) ++ wPl Z L) (by simp only [List.append_assoc, List.append_nil, List.nil_append]) ?_
      refine J_cVb (As := [.int (ofN n dy p h f t fu (kdA q)), .int (ofN n dy p h f t fu (kdB q))]) (st := []) (rc2 := 0) (rs2 := 0) (w0 := (wPl Z L)) (q0 := i) C iX10_of_261 lm_X10_54 yc_X10_ofTwo yv_X10_ofTwo (c_X10_ofTwo (i := i) (x := ofN n dy p h f t fu (kdA q)) (y := ofN n dy p h f t fu (kdB q)) hi9 (by decide) (by decide)) rfl rfl (wPl_at hi9) (wSim Z s n m hA lA oA tA eA (fun j => some (rw j)) (fun j => some (lr j)) fo ft fe dy ca ++ wRw Z n rw p h f t) [] (by simp only [List.append_assoc, List.append_nil, List.nil_append]) rfl (rmK_le (by omega) (by decide)) (Nat.le_of_ble_eq_true rfl) (Nat.zero_add _).symm (Nat.zero_add _).symm ?_
      rintro _ _ ⟨rfl, rfl⟩
      refine J_st (.int (twN 30 (ofN n dy p h f t fu (kdA q)) (ofN n dy p h f t fu (kdB q))) :: []) rfl ?_
      refine J_ws ((wSim Z s n m hA lA oA tA eA (fun j => some (rw j)) (fun j => some (lr j)) fo ft fe dy ca ++ wRw Z n rw p h f t) ++ wPl Z L) (by simp only [List.append_assoc, List.append_nil, List.nil_append]) ?_
      exact J_iret C E iX10_of_264 ⟨congrArg (fun z => some (Value.int z)) (show (twN 30 (ofN n dy p h f t fu (kdA q)) (ofN n dy p h f t fu (kdB q)) : Int32) = ofN n dy p h f t (fu + 1) q by rw [ofN, if_neg (by omega), if_neg (by omega), if_pos (by rw [hk]; rfl), hk]), rfl⟩
    · rw [hk] at hi9 hbA hbB
      have hnm := nm_lt hn (q := q) (by omega)
      obtain ⟨xa, rfl, hxa⟩ := hbA rfl
      obtain ⟨xb, rfl, hxb⟩ := hbB rfl
      refine Ct.ofJ (own := RX10) (nm := "of") (lv0 := [(0, .ref a), (1, .ref s)]) (by decide) rfl rfl (Nat.le_of_ble_eq_true rfl) rfl (fun X hXl C E => ?_)
      subst hXl
      refine J_room (rc2 := 0) (rs2 := 0) (Nat.le_refl _) (Nat.le_refl _) ?_
      refine J_aload_n C iX10_of_0 rfl rfl ?_
      refine J_get (.int 31) (((wSim Z s n m hA lA oA tA eA (fun j => some (rw j)) (fun j => some (lr j)) fo ft fe dy ca ++ wRw Z n rw p h f t)).length + i) C iX10_of_1 gf_X10_7 (mid_at (A := (wSim Z s n m hA lA oA tA eA (fun j => some (rw j)) (fun j => some (lr j)) fo ft fe dy ca ++ wRw Z n rw p h f t)) (M := wPl Z L) (B := []) (by simp only [List.append_assoc, List.append_nil, List.nil_append]) (wPl_at hi9)) rfl ?_
      refine J_tabOut 244 C iX10_of_4 (by decide) rfl ?_
      refine J_aload_n C iX10_of_244 rfl rfl ?_
      refine J_aload_n C iX10_of_245 rfl rfl ?_
      refine J_get (.ref xa) (((wSim Z s n m hA lA oA tA eA (fun j => some (rw j)) (fun j => some (lr j)) fo ft fe dy ca ++ wRw Z n rw p h f t)).length + i) C iX10_of_246 gf_X10_36 (mid_at (A := (wSim Z s n m hA lA oA tA eA (fun j => some (rw j)) (fun j => some (lr j)) fo ft fe dy ca ++ wRw Z n rw p h f t)) (M := wPl Z L) (B := []) (by simp only [List.append_assoc, List.append_nil, List.nil_append]) (wPl_at hi9)) rfl ?_
      refine J_aload_n C iX10_of_249 rfl rfl ?_
      obtain ⟨j1, e1, f1⟩ := InT.at hxa
      refine J_cVb (As := [.ref s]) (st := .ref a :: []) (rc2 := 0) (rs2 := 0) (w0 := ((wSim Z s n m hA lA oA tA eA (fun j => some (rw j)) (fun j => some (lr j)) fo ft fe dy ca ++ wRw Z n rw p h f t) ++ wPl Z L)) (q0 := ((wSim Z s n m hA lA oA tA eA (fun j => some (rw j)) (fun j => some (lr j)) fo ft fe dy ca ++ wRw Z n rw p h f t)).length + j1) C iX10_of_250 lm_X10_40 yc_X10_of yv_X10_of (ih (q := kdA q) hxa) rfl rfl (mid_at (A := (wSim Z s n m hA lA oA tA eA (fun j => some (rw j)) (fun j => some (lr j)) fo ft fe dy ca ++ wRw Z n rw p h f t)) (M := wPl Z L) (B := []) (by simp only [List.append_assoc, List.append_nil, List.nil_append]) (wPl_at f1)) [] [] (by simp only [List.append_assoc, List.append_nil, List.nil_append]) rfl (rmK_le (by omega) (by decide)) (Nat.le_of_ble_eq_true rfl) (Nat.zero_add _).symm (Nat.zero_add _).symm ?_
      rintro _ _ ⟨rfl, rfl⟩
      refine J_st (.int (ofN n dy p h f t fu (kdA q)) :: .ref a :: []) rfl ?_
      refine J_ws ((wSim Z s n m hA lA oA tA eA (fun j => some (rw j)) (fun j => some (lr j)) fo ft fe dy ca ++ wRw Z n rw p h f t) ++ wPl Z L) (by simp only [List.append_assoc, List.append_nil, List.nil_append]) ?_
      refine J_aload_n C iX10_of_253 rfl rfl ?_
      refine J_get (.ref xb) (((wSim Z s n m hA lA oA tA eA (fun j => some (rw j)) (fun j => some (lr j)) fo ft fe dy ca ++ wRw Z n rw p h f t)).length + i) C iX10_of_254 gf_X10_51 (mid_at (A := (wSim Z s n m hA lA oA tA eA (fun j => some (rw j)) (fun j => some (lr j)) fo ft fe dy ca ++ wRw Z n rw p h f t)) (M := wPl Z L) (B := []) (by simp only [List.append_assoc, List.append_nil, List.nil_append]) (wPl_at hi9)) rfl ?_
      refine J_aload_n C iX10_of_257 rfl rfl ?_
      obtain ⟨j2, e2, f2⟩ := InT.at hxb
      refine J_cVb (As := [.ref s]) (st := .int (ofN n dy p h f t fu (kdA q)) :: .ref a :: []) (rc2 := 0) (rs2 := 0) (w0 := ((wSim Z s n m hA lA oA tA eA (fun j => some (rw j)) (fun j => some (lr j)) fo ft fe dy ca ++ wRw Z n rw p h f t) ++ wPl Z L)) (q0 := ((wSim Z s n m hA lA oA tA eA (fun j => some (rw j)) (fun j => some (lr j)) fo ft fe dy ca ++ wRw Z n rw p h f t)).length + j2) C iX10_of_258 lm_X10_40 yc_X10_of yv_X10_of (ih (q := kdB q) hxb) rfl rfl (mid_at (A := (wSim Z s n m hA lA oA tA eA (fun j => some (rw j)) (fun j => some (lr j)) fo ft fe dy ca ++ wRw Z n rw p h f t)) (M := wPl Z L) (B := []) (by simp only [List.append_assoc, List.append_nil, List.nil_append]) (wPl_at f2)) [] [] (by simp only [List.append_assoc, List.append_nil, List.nil_append]) rfl (rmK_le (by omega) (by decide)) (Nat.le_of_ble_eq_true rfl) (Nat.zero_add _).symm (Nat.zero_add _).symm ?_
      rintro _ _ ⟨rfl, rfl⟩
      refine J_st (.int (ofN n dy p h f t fu (kdB q)) :: .int (ofN n dy p h f t fu (kdA q)) :: .ref a :: []) rfl ?_
      refine J_ws ((wSim Z s n m hA lA oA tA eA (fun j => some (rw j)) (fun j => some (lr j)) fo ft fe dy ca ++ wRw Z n rw p h f t) ++ wPl Z L) (by simp only [List.append_assoc, List.append_nil, List.nil_append]) ?_
      refine J_cVb (As := [.int (ofN n dy p h f t fu (kdA q)), .int (ofN n dy p h f t fu (kdB q))]) (st := []) (rc2 := 0) (rs2 := 0) (w0 := (wPl Z L)) (q0 := i) C iX10_of_261 lm_X10_54 yc_X10_ofTwo yv_X10_ofTwo (c_X10_ofTwo (i := i) (x := ofN n dy p h f t fu (kdA q)) (y := ofN n dy p h f t fu (kdB q)) hi9 (by decide) (by decide)) rfl rfl (wPl_at hi9) (wSim Z s n m hA lA oA tA eA (fun j => some (rw j)) (fun j => some (lr j)) fo ft fe dy ca ++ wRw Z n rw p h f t) [] (by simp only [List.append_assoc, List.append_nil, List.nil_append]) rfl (rmK_le (by omega) (by decide)) (Nat.le_of_ble_eq_true rfl) (Nat.zero_add _).symm (Nat.zero_add _).symm ?_
      rintro _ _ ⟨rfl, rfl⟩
      refine J_st (.int (twN 31 (ofN n dy p h f t fu (kdA q)) (ofN n dy p h f t fu (kdB q))) :: []) rfl ?_
      refine J_ws ((wSim Z s n m hA lA oA tA eA (fun j => some (rw j)) (fun j => some (lr j)) fo ft fe dy ca ++ wRw Z n rw p h f t) ++ wPl Z L) (by simp only [List.append_assoc, List.append_nil, List.nil_append]) ?_
      exact J_iret C E iX10_of_264 ⟨congrArg (fun z => some (Value.int z)) (show (twN 31 (ofN n dy p h f t fu (kdA q)) (ofN n dy p h f t fu (kdB q)) : Int32) = ofN n dy p h f t (fu + 1) q by rw [ofN, if_neg (by omega), if_neg (by omega), if_pos (by rw [hk]; rfl), hk]), rfl⟩

