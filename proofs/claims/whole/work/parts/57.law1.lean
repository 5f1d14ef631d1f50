set_option maxRecDepth 100000 in
set_option maxHeartbeats 4000000 in
theorem law_alphabet {p : Program} {l : Launch} {e : Env} {s : State} {m : MethodId} {below : List Frame} {meth : Method} {c : Code} {D : va_G} {T : Nat → ClassId} {ad ad2 : Nat → Nat} {A : Nat → Prop} {b L : Nat} {xs : Nat → Int32} (E : EN room_1 46 614819 p s m #[Value.ref b] meth c code 4 ret wsL_law RL D (tyX T) (WL T ad ad2) (alX ad ++ alM ad2) A) (hX : va_X b L xs s s.heap) (hbl : b < s.heap.size) (hbA : ¬ A b) (hL : L ≤ 3584) (hN : ∀ i j, i < 33 → j < 33 → ad i = ad j → i = j) (hM : ∀ i j, i < 13 → j < 13 → ad2 i = ad2 j → i = j) (hdj : ∀ i j, i < 33 → j < 13 → ad i ≠ ad2 j) {a : AB_} {s1 s2 : St_} {i : Int} (hi : 0 ≤ i ∧ i + 7 ≤ (L : Int)) (hC : CI s1 a) (hI : MI s2 a) (kk : ∀ (a1 : AB_) (t1 t2 : St_), CI t1 a1 → MI t2 a1 → XJ p l e room_1 s m #[Value.ref b] below meth c D (WL T ad ad2) A 4 (lw_Z below #[Value.ref b] s) 46 614819 (t1, t2) 916 [(0, .ref b), (1, .ref (ad 0)), (2, .ref (ad2 0)), (3, .int (ii i))] []) : XJ p l e room_1 s m #[Value.ref b] below meth c D (WL T ad ad2) A 4 (lw_Z below #[Value.ref b] s) 46 614819 (s1, s2) 148 [(0, .ref b), (1, .ref (ad 0)), (2, .ref (ad2 0)), (3, .int (ii i))] [] := by
  have k1 := hC.1
  have k2 := hI.1
  rcases (show (0 ≤ sc xs (i + 1) ∧ sc xs (i + 1) < 4) ∨ (sc xs (i + 1) < 0 ∨ 4 ≤ sc xs (i + 1)) by omega) with c9 | c9
  · obtain ⟨r, hr⟩ : ∃ r : Nat, sc xs (i + 1) = (r : Int) := ⟨(sc xs (i + 1)).toNat, by omega⟩
    have hr9 : r < 4 := by omega
    refine x_aload_n (q := 149) E dL_law_148 1 rfl rfl ?_
    refine x_aload_n (q := 150) E dL_law_149 0 rfl rfl ?_
    refine x_iload_n (q := 151) E dL_law_150 3 rfl rfl ?_
    refine x_iconst (q := 152) E dL_law_151 rfl ?_
    refine x_iadd (q := 153) E dL_law_152 rfl ?_
    refine x_sld (q := 154) E hX hbl hbA (by omega) (by omega) (by omega) dL_law_153 rfl ?_
    refine x_ti hr ?_
    refine x_aload_n (q := 155) E dL_law_154 0 rfl rfl ?_
    refine x_iload_n (q := 156) E dL_law_155 3 rfl rfl ?_
    refine x_iconst (q := 157) E dL_law_156 rfl ?_
    refine x_iadd (q := 158) E dL_law_157 rfl ?_
    refine x_sld (q := 159) E hX hbl hbA (by omega) (by omega) (by omega) dL_law_158 rfl ?_
    refine x_aload_n (q := 160) E dL_law_159 0 rfl rfl ?_
    refine x_iload_n (q := 161) E dL_law_160 3 rfl rfl ?_
    refine x_iconst (q := 162) E dL_law_161 rfl ?_
    refine x_iadd (q := 163) E dL_law_162 rfl ?_
    refine x_sld (q := 164) E hX hbl hbA (by omega) (by omega) (by omega) dL_law_163 rfl ?_
    refine x_aload_n (q := 165) E dL_law_164 0 rfl rfl ?_
    refine x_iload_n (q := 166) E dL_law_165 3 rfl rfl ?_
    refine x_iconst (q := 167) E dL_law_166 rfl ?_
    refine x_iadd (q := 168) E dL_law_167 rfl ?_
    refine x_sld (q := 169) E hX hbl hbA (by omega) (by omega) (by omega) dL_law_168 rfl ?_
    refine x_aload_n (q := 170) E dL_law_169 0 rfl rfl ?_
    refine x_iload_n (q := 171) E dL_law_170 3 rfl rfl ?_
    refine x_iconst (q := 172) E dL_law_171 rfl ?_
    refine x_iadd (q := 173) E dL_law_172 rfl ?_
    refine x_sld (q := 174) E hX hbl hbA (by omega) (by omega) (by omega) dL_law_173 rfl ?_
    refine x_aload_n (q := 175) E dL_law_174 0 rfl rfl ?_
    refine x_iload_n (q := 176) E dL_law_175 3 rfl rfl ?_
    refine x_bipush (q := 178) E dL_law_176 (by decide) rfl ?_
    refine x_iadd (q := 179) E dL_law_178 rfl ?_
    refine x_sld (q := 180) E hX hbl hbA (by omega) (by omega) (by omega) dL_law_179 rfl ?_
    refine x_pLi (q := 183) (n := 6) (As := [.int (ii ((r : Int))), .int (ii (sc xs (i + 2))), .int (ii (sc xs (i + 3))), .int (ii (sc xs (i + 4))), .int (ii (sc xs (i + 5))), .int (ii (sc xs (i + 6)))]) (r := []) E (c_X5_alphabet l D T ad hN s1 r hr9 (sc xs (i + 2)) (sc_b xs (i + 2)) (sc xs (i + 3)) (sc_b xs (i + 3)) (sc xs (i + 4)) (sc_b xs (i + 4)) (sc xs (i + 5)) (sc_b xs (i + 5)) (sc xs (i + 6)) (sc_b xs (i + 6)) a hC) gL_law_X5_alphabet rfl rfl rfl (by decide +kernel) ⟨Nat.le_of_ble_eq_true rfl, Nat.le_of_ble_eq_true rfl⟩ 0 rfl rfl rfl rfl (Nat.le_of_ble_eq_true rfl) (fun q hq => E.2.2.2.2.2.2.2.2.2.1 q (List.mem_append_left _ hq)) hdj dL_law_180 rfl (fun z1 t1 q1 => ?_)
    refine x_aload_n (q := 184) E dL_law_183 2 rfl rfl ?_
    refine x_aload_n (q := 185) E dL_law_184 0 rfl rfl ?_
    refine x_iload_n (q := 186) E dL_law_185 3 rfl rfl ?_
    refine x_iconst (q := 187) E dL_law_186 rfl ?_
    refine x_iadd (q := 188) E dL_law_187 rfl ?_
    refine x_sld (q := 189) E hX hbl hbA (by omega) (by omega) (by omega) dL_law_188 rfl ?_
    refine x_ti hr ?_
    refine x_aload_n (q := 190) E dL_law_189 0 rfl rfl ?_
    refine x_iload_n (q := 191) E dL_law_190 3 rfl rfl ?_
    refine x_iconst (q := 192) E dL_law_191 rfl ?_
    refine x_iadd (q := 193) E dL_law_192 rfl ?_
    refine x_sld (q := 194) E hX hbl hbA (by omega) (by omega) (by omega) dL_law_193 rfl ?_
    refine x_aload_n (q := 195) E dL_law_194 0 rfl rfl ?_
    refine x_iload_n (q := 196) E dL_law_195 3 rfl rfl ?_
    refine x_iconst (q := 197) E dL_law_196 rfl ?_
    refine x_iadd (q := 198) E dL_law_197 rfl ?_
    refine x_sld (q := 199) E hX hbl hbA (by omega) (by omega) (by omega) dL_law_198 rfl ?_
    refine x_aload_n (q := 200) E dL_law_199 0 rfl rfl ?_
    refine x_iload_n (q := 201) E dL_law_200 3 rfl rfl ?_
    refine x_iconst (q := 202) E dL_law_201 rfl ?_
    refine x_iadd (q := 203) E dL_law_202 rfl ?_
    refine x_sld (q := 204) E hX hbl hbA (by omega) (by omega) (by omega) dL_law_203 rfl ?_
    refine x_aload_n (q := 205) E dL_law_204 0 rfl rfl ?_
    refine x_iload_n (q := 206) E dL_law_205 3 rfl rfl ?_
    refine x_iconst (q := 207) E dL_law_206 rfl ?_
    refine x_iadd (q := 208) E dL_law_207 rfl ?_
    refine x_sld (q := 209) E hX hbl hbA (by omega) (by omega) (by omega) dL_law_208 rfl ?_
    refine x_aload_n (q := 210) E dL_law_209 0 rfl rfl ?_
    refine x_iload_n (q := 211) E dL_law_210 3 rfl rfl ?_
    refine x_bipush (q := 213) E dL_law_211 (by decide) rfl ?_
    refine x_iadd (q := 214) E dL_law_213 rfl ?_
    refine x_sld (q := 215) E hX hbl hbA (by omega) (by omega) (by omega) dL_law_214 rfl ?_
    refine x_pRi (q := 218) (n := 6) (As := [.int (ii ((r : Int))), .int (ii (sc xs (i + 2))), .int (ii (sc xs (i + 3))), .int (ii (sc xs (i + 4))), .int (ii (sc xs (i + 5))), .int (ii (sc xs (i + 6)))]) (r := [.int (ii z1)]) E (c_X6_alphabet l D T ad2 hM s2 r hr9 (sc xs (i + 2)) (sc_b xs (i + 2)) (sc xs (i + 3)) (sc_b xs (i + 3)) (sc xs (i + 4)) (sc_b xs (i + 4)) (sc xs (i + 5)) (sc_b xs (i + 5)) (sc xs (i + 6)) (sc_b xs (i + 6)) a hI) gL_law_X6_alphabet rfl rfl rfl (by decide +kernel) ⟨Nat.le_of_ble_eq_true rfl, Nat.le_of_ble_eq_true rfl⟩ 0 rfl rfl rfl rfl (Nat.le_of_ble_eq_true rfl) (fun q hq => E.2.2.2.2.2.2.2.2.2.1 q (List.mem_append_right _ hq)) hdj dL_law_215 rfl (fun z2 t2 q2 => ?_)
    obtain ⟨e1, hC1⟩ := q1
    obtain ⟨e2, hI1⟩ := q2
    subst e1
    subst e2
    refine x_same (tgt := 916) E dL_law_218 (by decide) ?_
    exact kk _ _ _ hC1 hI1
  · refine x_aload_n (q := 149) E dL_law_148 1 rfl rfl ?_
    refine x_aload_n (q := 150) E dL_law_149 0 rfl rfl ?_
    refine x_iload_n (q := 151) E dL_law_150 3 rfl rfl ?_
    refine x_iconst (q := 152) E dL_law_151 rfl ?_
    refine x_iadd (q := 153) E dL_law_152 rfl ?_
    refine x_sld (q := 154) E hX hbl hbA (by omega) (by omega) (by omega) dL_law_153 rfl ?_
    refine x_aload_n (q := 155) E dL_law_154 0 rfl rfl ?_
    refine x_iload_n (q := 156) E dL_law_155 3 rfl rfl ?_
    refine x_iconst (q := 157) E dL_law_156 rfl ?_
    refine x_iadd (q := 158) E dL_law_157 rfl ?_
    refine x_sld (q := 159) E hX hbl hbA (by omega) (by omega) (by omega) dL_law_158 rfl ?_
    refine x_aload_n (q := 160) E dL_law_159 0 rfl rfl ?_
    refine x_iload_n (q := 161) E dL_law_160 3 rfl rfl ?_
    refine x_iconst (q := 162) E dL_law_161 rfl ?_
    refine x_iadd (q := 163) E dL_law_162 rfl ?_
    refine x_sld (q := 164) E hX hbl hbA (by omega) (by omega) (by omega) dL_law_163 rfl ?_
    refine x_aload_n (q := 165) E dL_law_164 0 rfl rfl ?_
    refine x_iload_n (q := 166) E dL_law_165 3 rfl rfl ?_
    refine x_iconst (q := 167) E dL_law_166 rfl ?_
    refine x_iadd (q := 168) E dL_law_167 rfl ?_
    refine x_sld (q := 169) E hX hbl hbA (by omega) (by omega) (by omega) dL_law_168 rfl ?_
    refine x_aload_n (q := 170) E dL_law_169 0 rfl rfl ?_
    refine x_iload_n (q := 171) E dL_law_170 3 rfl rfl ?_
    refine x_iconst (q := 172) E dL_law_171 rfl ?_
    refine x_iadd (q := 173) E dL_law_172 rfl ?_
    refine x_sld (q := 174) E hX hbl hbA (by omega) (by omega) (by omega) dL_law_173 rfl ?_
    refine x_aload_n (q := 175) E dL_law_174 0 rfl rfl ?_
    refine x_iload_n (q := 176) E dL_law_175 3 rfl rfl ?_
    refine x_bipush (q := 178) E dL_law_176 (by decide) rfl ?_
    refine x_iadd (q := 179) E dL_law_178 rfl ?_
    refine x_sld (q := 180) E hX hbl hbA (by omega) (by omega) (by omega) dL_law_179 rfl ?_
    refine x_pLi (q := 183) (n := 6) (As := [.int (ii (sc xs (i + 1))), .int (ii (sc xs (i + 2))), .int (ii (sc xs (i + 3))), .int (ii (sc xs (i + 4))), .int (ii (sc xs (i + 5))), .int (ii (sc xs (i + 6)))]) (r := []) E (c_X5_alphabet_n l D T ad hN s1 (sc xs (i + 1)) (sc_b xs (i + 1)) (sc xs (i + 2)) (sc_b xs (i + 2)) (sc xs (i + 3)) (sc_b xs (i + 3)) (sc xs (i + 4)) (sc_b xs (i + 4)) (sc xs (i + 5)) (sc_b xs (i + 5)) (sc xs (i + 6)) (sc_b xs (i + 6)) (by omega) a hC) gL_law_X5_alphabet rfl rfl rfl (by decide +kernel) ⟨Nat.le_of_ble_eq_true rfl, Nat.le_of_ble_eq_true rfl⟩ 0 rfl rfl rfl rfl (Nat.le_of_ble_eq_true rfl) (fun q hq => E.2.2.2.2.2.2.2.2.2.1 q (List.mem_append_left _ hq)) hdj dL_law_180 rfl (fun z1 t1 q1 => ?_)
    refine x_aload_n (q := 184) E dL_law_183 2 rfl rfl ?_
    refine x_aload_n (q := 185) E dL_law_184 0 rfl rfl ?_
    refine x_iload_n (q := 186) E dL_law_185 3 rfl rfl ?_
    refine x_iconst (q := 187) E dL_law_186 rfl ?_
    refine x_iadd (q := 188) E dL_law_187 rfl ?_
    refine x_sld (q := 189) E hX hbl hbA (by omega) (by omega) (by omega) dL_law_188 rfl ?_
    refine x_aload_n (q := 190) E dL_law_189 0 rfl rfl ?_
    refine x_iload_n (q := 191) E dL_law_190 3 rfl rfl ?_
    refine x_iconst (q := 192) E dL_law_191 rfl ?_
    refine x_iadd (q := 193) E dL_law_192 rfl ?_
    refine x_sld (q := 194) E hX hbl hbA (by omega) (by omega) (by omega) dL_law_193 rfl ?_
    refine x_aload_n (q := 195) E dL_law_194 0 rfl rfl ?_
    refine x_iload_n (q := 196) E dL_law_195 3 rfl rfl ?_
    refine x_iconst (q := 197) E dL_law_196 rfl ?_
    refine x_iadd (q := 198) E dL_law_197 rfl ?_
    refine x_sld (q := 199) E hX hbl hbA (by omega) (by omega) (by omega) dL_law_198 rfl ?_
    refine x_aload_n (q := 200) E dL_law_199 0 rfl rfl ?_
    refine x_iload_n (q := 201) E dL_law_200 3 rfl rfl ?_
    refine x_iconst (q := 202) E dL_law_201 rfl ?_
    refine x_iadd (q := 203) E dL_law_202 rfl ?_
    refine x_sld (q := 204) E hX hbl hbA (by omega) (by omega) (by omega) dL_law_203 rfl ?_
    refine x_aload_n (q := 205) E dL_law_204 0 rfl rfl ?_
    refine x_iload_n (q := 206) E dL_law_205 3 rfl rfl ?_
    refine x_iconst (q := 207) E dL_law_206 rfl ?_
    refine x_iadd (q := 208) E dL_law_207 rfl ?_
    refine x_sld (q := 209) E hX hbl hbA (by omega) (by omega) (by omega) dL_law_208 rfl ?_
    refine x_aload_n (q := 210) E dL_law_209 0 rfl rfl ?_
    refine x_iload_n (q := 211) E dL_law_210 3 rfl rfl ?_
    refine x_bipush (q := 213) E dL_law_211 (by decide) rfl ?_
    refine x_iadd (q := 214) E dL_law_213 rfl ?_
    refine x_sld (q := 215) E hX hbl hbA (by omega) (by omega) (by omega) dL_law_214 rfl ?_
    refine x_pRi (q := 218) (n := 6) (As := [.int (ii (sc xs (i + 1))), .int (ii (sc xs (i + 2))), .int (ii (sc xs (i + 3))), .int (ii (sc xs (i + 4))), .int (ii (sc xs (i + 5))), .int (ii (sc xs (i + 6)))]) (r := [.int (ii z1)]) E (c_X6_alphabet_n l D T ad2 hM s2 (sc xs (i + 1)) (sc_b xs (i + 1)) (sc xs (i + 2)) (sc_b xs (i + 2)) (sc xs (i + 3)) (sc_b xs (i + 3)) (sc xs (i + 4)) (sc_b xs (i + 4)) (sc xs (i + 5)) (sc_b xs (i + 5)) (sc xs (i + 6)) (sc_b xs (i + 6)) (by omega) a hI) gL_law_X6_alphabet rfl rfl rfl (by decide +kernel) ⟨Nat.le_of_ble_eq_true rfl, Nat.le_of_ble_eq_true rfl⟩ 0 rfl rfl rfl rfl (Nat.le_of_ble_eq_true rfl) (fun q hq => E.2.2.2.2.2.2.2.2.2.1 q (List.mem_append_right _ hq)) hdj dL_law_215 rfl (fun z2 t2 q2 => ?_)
    obtain ⟨e1, hC1⟩ := q1
    obtain ⟨e2, hI1⟩ := q2
    subst e1
    subst e2
    refine x_same (tgt := 916) E dL_law_218 (by decide) ?_
    exact kk _ _ _ hC1 hI1

set_option maxRecDepth 100000 in
set_option maxHeartbeats 4000000 in
theorem law_ring {p : Program} {l : Launch} {e : Env} {s : State} {m : MethodId} {below : List Frame} {meth : Method} {c : Code} {D : va_G} {T : Nat → ClassId} {ad ad2 : Nat → Nat} {A : Nat → Prop} {b L : Nat} {xs : Nat → Int32} (E : EN room_1 46 614819 p s m #[Value.ref b] meth c code 4 ret wsL_law RL D (tyX T) (WL T ad ad2) (alX ad ++ alM ad2) A) (hX : va_X b L xs s s.heap) (hbl : b < s.heap.size) (hbA : ¬ A b) (hL : L ≤ 3584) (hN : ∀ i j, i < 33 → j < 33 → ad i = ad j → i = j) (hM : ∀ i j, i < 13 → j < 13 → ad2 i = ad2 j → i = j) (hdj : ∀ i j, i < 33 → j < 13 → ad i ≠ ad2 j) {a : AB_} {s1 s2 : St_} {i : Int} (hi : 0 ≤ i ∧ i + 7 ≤ (L : Int)) (hC : CI s1 a) (hI : MI s2 a) (kk : ∀ (a1 : AB_) (t1 t2 : St_), CI t1 a1 → MI t2 a1 → XJ p l e room_1 s m #[Value.ref b] below meth c D (WL T ad ad2) A 4 (lw_Z below #[Value.ref b] s) 46 614819 (t1, t2) 916 [(0, .ref b), (1, .ref (ad 0)), (2, .ref (ad2 0)), (3, .int (ii i))] []) : XJ p l e room_1 s m #[Value.ref b] below meth c D (WL T ad ad2) A 4 (lw_Z below #[Value.ref b] s) 46 614819 (s1, s2) 223 [(0, .ref b), (1, .ref (ad 0)), (2, .ref (ad2 0)), (3, .int (ii i))] [] := by
  have k1 := hC.1
  have k2 := hI.1
  refine x_aload_n (q := 224) E dL_law_223 1 rfl rfl ?_
  refine x_aload_n (q := 225) E dL_law_224 0 rfl rfl ?_
  refine x_iload_n (q := 226) E dL_law_225 3 rfl rfl ?_
  refine x_iconst (q := 227) E dL_law_226 rfl ?_
  refine x_iadd (q := 228) E dL_law_227 rfl ?_
  refine x_sld (q := 229) E hX hbl hbA (by omega) (by omega) (by omega) dL_law_228 rfl ?_
  refine x_aload_n (q := 230) E dL_law_229 0 rfl rfl ?_
  refine x_iload_n (q := 231) E dL_law_230 3 rfl rfl ?_
  refine x_iconst (q := 232) E dL_law_231 rfl ?_
  refine x_iadd (q := 233) E dL_law_232 rfl ?_
  refine x_sld (q := 234) E hX hbl hbA (by omega) (by omega) (by omega) dL_law_233 rfl ?_
  refine x_aload_n (q := 235) E dL_law_234 0 rfl rfl ?_
  refine x_iload_n (q := 236) E dL_law_235 3 rfl rfl ?_
  refine x_iconst (q := 237) E dL_law_236 rfl ?_
  refine x_iadd (q := 238) E dL_law_237 rfl ?_
  refine x_sld (q := 239) E hX hbl hbA (by omega) (by omega) (by omega) dL_law_238 rfl ?_
  refine x_aload_n (q := 240) E dL_law_239 0 rfl rfl ?_
  refine x_iload_n (q := 241) E dL_law_240 3 rfl rfl ?_
  refine x_iconst (q := 242) E dL_law_241 rfl ?_
  refine x_iadd (q := 243) E dL_law_242 rfl ?_
  refine x_sld (q := 244) E hX hbl hbA (by omega) (by omega) (by omega) dL_law_243 rfl ?_
  refine x_pLi (q := 247) (n := 4) (As := [.int (ii (sc xs (i + 1))), .int (ii (sc xs (i + 2))), .int (ii (sc xs (i + 3))), .int (ii (sc xs (i + 4)))]) (r := []) E (c_X5_ring l D T ad hN s1 (sc xs (i + 1)) (sc_b xs (i + 1)) (sc xs (i + 2)) (sc_b xs (i + 2)) (sc xs (i + 3)) (sc_b xs (i + 3)) (sc xs (i + 4)) (sc_b xs (i + 4)) a hC) gL_law_X5_ring rfl rfl rfl (by decide +kernel) ⟨Nat.le_of_ble_eq_true rfl, Nat.le_of_ble_eq_true rfl⟩ 0 rfl rfl rfl rfl (Nat.le_of_ble_eq_true rfl) (fun q hq => E.2.2.2.2.2.2.2.2.2.1 q (List.mem_append_left _ hq)) hdj dL_law_244 rfl (fun z1 t1 q1 => ?_)
  refine x_aload_n (q := 248) E dL_law_247 2 rfl rfl ?_
  refine x_aload_n (q := 249) E dL_law_248 0 rfl rfl ?_
  refine x_iload_n (q := 250) E dL_law_249 3 rfl rfl ?_
  refine x_iconst (q := 251) E dL_law_250 rfl ?_
  refine x_iadd (q := 252) E dL_law_251 rfl ?_
  refine x_sld (q := 253) E hX hbl hbA (by omega) (by omega) (by omega) dL_law_252 rfl ?_
  refine x_aload_n (q := 254) E dL_law_253 0 rfl rfl ?_
  refine x_iload_n (q := 255) E dL_law_254 3 rfl rfl ?_
  refine x_iconst (q := 256) E dL_law_255 rfl ?_
  refine x_iadd (q := 257) E dL_law_256 rfl ?_
  refine x_sld (q := 258) E hX hbl hbA (by omega) (by omega) (by omega) dL_law_257 rfl ?_
  refine x_aload_n (q := 259) E dL_law_258 0 rfl rfl ?_
  refine x_iload_n (q := 260) E dL_law_259 3 rfl rfl ?_
  refine x_iconst (q := 261) E dL_law_260 rfl ?_
  refine x_iadd (q := 262) E dL_law_261 rfl ?_
  refine x_sld (q := 263) E hX hbl hbA (by omega) (by omega) (by omega) dL_law_262 rfl ?_
  refine x_aload_n (q := 264) E dL_law_263 0 rfl rfl ?_
  refine x_iload_n (q := 265) E dL_law_264 3 rfl rfl ?_
  refine x_iconst (q := 266) E dL_law_265 rfl ?_
  refine x_iadd (q := 267) E dL_law_266 rfl ?_
  refine x_sld (q := 268) E hX hbl hbA (by omega) (by omega) (by omega) dL_law_267 rfl ?_
  refine x_pRi (q := 271) (n := 4) (As := [.int (ii (sc xs (i + 1))), .int (ii (sc xs (i + 2))), .int (ii (sc xs (i + 3))), .int (ii (sc xs (i + 4)))]) (r := [.int (ii z1)]) E (c_X6_ring l D T ad2 hM s2 (sc xs (i + 1)) (sc_b xs (i + 1)) (sc xs (i + 2)) (sc_b xs (i + 2)) (sc xs (i + 3)) (sc_b xs (i + 3)) (sc xs (i + 4)) (sc_b xs (i + 4)) a hI) gL_law_X6_ring rfl rfl rfl (by decide +kernel) ⟨Nat.le_of_ble_eq_true rfl, Nat.le_of_ble_eq_true rfl⟩ 0 rfl rfl rfl rfl (Nat.le_of_ble_eq_true rfl) (fun q hq => E.2.2.2.2.2.2.2.2.2.1 q (List.mem_append_right _ hq)) hdj dL_law_268 rfl (fun z2 t2 q2 => ?_)
  obtain ⟨e1, hC1⟩ := q1
  obtain ⟨e2, hI1⟩ := q2
  subst e1
  subst e2
  refine x_same (tgt := 916) E dL_law_271 (by decide) ?_
  exact kk _ _ _ hC1 hI1

set_option maxRecDepth 100000 in
set_option maxHeartbeats 4000000 in
theorem law_at {p : Program} {l : Launch} {e : Env} {s : State} {m : MethodId} {below : List Frame} {meth : Method} {c : Code} {D : va_G} {T : Nat → ClassId} {ad ad2 : Nat → Nat} {A : Nat → Prop} {b L : Nat} {xs : Nat → Int32} (E : EN room_1 46 614819 p s m #[Value.ref b] meth c code 4 ret wsL_law RL D (tyX T) (WL T ad ad2) (alX ad ++ alM ad2) A) (hX : va_X b L xs s s.heap) (hbl : b < s.heap.size) (hbA : ¬ A b) (hL : L ≤ 3584) (hN : ∀ i j, i < 33 → j < 33 → ad i = ad j → i = j) (hM : ∀ i j, i < 13 → j < 13 → ad2 i = ad2 j → i = j) (hdj : ∀ i j, i < 33 → j < 13 → ad i ≠ ad2 j) {a : AB_} {s1 s2 : St_} {i : Int} (hi : 0 ≤ i ∧ i + 7 ≤ (L : Int)) (hC : CI s1 a) (hI : MI s2 a) (kk : ∀ (a1 : AB_) (t1 t2 : St_), CI t1 a1 → MI t2 a1 → XJ p l e room_1 s m #[Value.ref b] below meth c D (WL T ad ad2) A 4 (lw_Z below #[Value.ref b] s) 46 614819 (t1, t2) 916 [(0, .ref b), (1, .ref (ad 0)), (2, .ref (ad2 0)), (3, .int (ii i))] []) : XJ p l e room_1 s m #[Value.ref b] below meth c D (WL T ad ad2) A 4 (lw_Z below #[Value.ref b] s) 46 614819 (s1, s2) 276 [(0, .ref b), (1, .ref (ad 0)), (2, .ref (ad2 0)), (3, .int (ii i))] [] := by
  have k1 := hC.1
  have k2 := hI.1
  have k3 := hC.2.2.2.2.2.2.2.1
  rcases (show (0 ≤ sc xs (i + 1) ∧ sc xs (i + 1) < s1.1 2) ∨ (sc xs (i + 1) < 0 ∨ s1.1 2 ≤ sc xs (i + 1)) by omega) with c9 | c9
  · obtain ⟨r, hr⟩ : ∃ r : Nat, sc xs (i + 1) = (r : Int) := ⟨(sc xs (i + 1)).toNat, by omega⟩
    have hr9 : r < 3 := by omega
    refine x_aload_n (q := 277) E dL_law_276 1 rfl rfl ?_
    refine x_aload_n (q := 278) E dL_law_277 0 rfl rfl ?_
    refine x_iload_n (q := 279) E dL_law_278 3 rfl rfl ?_
    refine x_iconst (q := 280) E dL_law_279 rfl ?_
    refine x_iadd (q := 281) E dL_law_280 rfl ?_
    refine x_sld (q := 282) E hX hbl hbA (by omega) (by omega) (by omega) dL_law_281 rfl ?_
    refine x_ti hr ?_
    refine x_aload_n (q := 283) E dL_law_282 0 rfl rfl ?_
    refine x_iload_n (q := 284) E dL_law_283 3 rfl rfl ?_
    refine x_iconst (q := 285) E dL_law_284 rfl ?_
    refine x_iadd (q := 286) E dL_law_285 rfl ?_
    refine x_sld (q := 287) E hX hbl hbA (by omega) (by omega) (by omega) dL_law_286 rfl ?_
    refine x_pLi (q := 290) (n := 2) (As := [.int (ii ((r : Int))), .int (ii (sc xs (i + 2)))]) (r := []) E (c_X5_at l D T ad hN s1 r hr9 (sc xs (i + 2)) (sc_b xs (i + 2)) (by omega) a hC) gL_law_X5_at rfl rfl rfl (by decide +kernel) ⟨Nat.le_of_ble_eq_true rfl, Nat.le_of_ble_eq_true rfl⟩ 0 rfl rfl rfl rfl (Nat.le_of_ble_eq_true rfl) (fun q hq => E.2.2.2.2.2.2.2.2.2.1 q (List.mem_append_left _ hq)) hdj dL_law_287 rfl (fun z1 t1 q1 => ?_)
    refine x_aload_n (q := 291) E dL_law_290 2 rfl rfl ?_
    refine x_aload_n (q := 292) E dL_law_291 0 rfl rfl ?_
    refine x_iload_n (q := 293) E dL_law_292 3 rfl rfl ?_
    refine x_iconst (q := 294) E dL_law_293 rfl ?_
    refine x_iadd (q := 295) E dL_law_294 rfl ?_
    refine x_sld (q := 296) E hX hbl hbA (by omega) (by omega) (by omega) dL_law_295 rfl ?_
    refine x_ti hr ?_
    refine x_aload_n (q := 297) E dL_law_296 0 rfl rfl ?_
    refine x_iload_n (q := 298) E dL_law_297 3 rfl rfl ?_
    refine x_iconst (q := 299) E dL_law_298 rfl ?_
    refine x_iadd (q := 300) E dL_law_299 rfl ?_
    refine x_sld (q := 301) E hX hbl hbA (by omega) (by omega) (by omega) dL_law_300 rfl ?_
    refine x_pRi (q := 304) (n := 2) (As := [.int (ii ((r : Int))), .int (ii (sc xs (i + 2)))]) (r := [.int (ii z1)]) E (c_X6_at l D T ad2 hM s2 r hr9 (sc xs (i + 2)) (sc_b xs (i + 2)) (by omega) a hI) gL_law_X6_at rfl rfl rfl (by decide +kernel) ⟨Nat.le_of_ble_eq_true rfl, Nat.le_of_ble_eq_true rfl⟩ 0 rfl rfl rfl rfl (Nat.le_of_ble_eq_true rfl) (fun q hq => E.2.2.2.2.2.2.2.2.2.1 q (List.mem_append_right _ hq)) hdj dL_law_301 rfl (fun z2 t2 q2 => ?_)
    obtain ⟨e1, hC1⟩ := q1
    obtain ⟨e2, hI1⟩ := q2
    subst e1
    subst e2
    refine x_same (tgt := 916) E dL_law_304 (by decide) ?_
    exact kk _ _ _ hC1 hI1
  · refine x_aload_n (q := 277) E dL_law_276 1 rfl rfl ?_
    refine x_aload_n (q := 278) E dL_law_277 0 rfl rfl ?_
    refine x_iload_n (q := 279) E dL_law_278 3 rfl rfl ?_
    refine x_iconst (q := 280) E dL_law_279 rfl ?_
    refine x_iadd (q := 281) E dL_law_280 rfl ?_
    refine x_sld (q := 282) E hX hbl hbA (by omega) (by omega) (by omega) dL_law_281 rfl ?_
    refine x_aload_n (q := 283) E dL_law_282 0 rfl rfl ?_
    refine x_iload_n (q := 284) E dL_law_283 3 rfl rfl ?_
    refine x_iconst (q := 285) E dL_law_284 rfl ?_
    refine x_iadd (q := 286) E dL_law_285 rfl ?_
    refine x_sld (q := 287) E hX hbl hbA (by omega) (by omega) (by omega) dL_law_286 rfl ?_
    refine x_pLi (q := 290) (n := 2) (As := [.int (ii (sc xs (i + 1))), .int (ii (sc xs (i + 2)))]) (r := []) E (c_X5_at_n l D T ad hN s1 (sc xs (i + 1)) (sc_b xs (i + 1)) (sc xs (i + 2)) (sc_b xs (i + 2)) (by omega) a hC) gL_law_X5_at rfl rfl rfl (by decide +kernel) ⟨Nat.le_of_ble_eq_true rfl, Nat.le_of_ble_eq_true rfl⟩ 0 rfl rfl rfl rfl (Nat.le_of_ble_eq_true rfl) (fun q hq => E.2.2.2.2.2.2.2.2.2.1 q (List.mem_append_left _ hq)) hdj dL_law_287 rfl (fun z1 t1 q1 => ?_)
    refine x_aload_n (q := 291) E dL_law_290 2 rfl rfl ?_
    refine x_aload_n (q := 292) E dL_law_291 0 rfl rfl ?_
    refine x_iload_n (q := 293) E dL_law_292 3 rfl rfl ?_
    refine x_iconst (q := 294) E dL_law_293 rfl ?_
    refine x_iadd (q := 295) E dL_law_294 rfl ?_
    refine x_sld (q := 296) E hX hbl hbA (by omega) (by omega) (by omega) dL_law_295 rfl ?_
    refine x_aload_n (q := 297) E dL_law_296 0 rfl rfl ?_
    refine x_iload_n (q := 298) E dL_law_297 3 rfl rfl ?_
    refine x_iconst (q := 299) E dL_law_298 rfl ?_
    refine x_iadd (q := 300) E dL_law_299 rfl ?_
    refine x_sld (q := 301) E hX hbl hbA (by omega) (by omega) (by omega) dL_law_300 rfl ?_
    refine x_pRi (q := 304) (n := 2) (As := [.int (ii (sc xs (i + 1))), .int (ii (sc xs (i + 2)))]) (r := [.int (ii z1)]) E (c_X6_at_n l D T ad2 hM s2 (sc xs (i + 1)) (sc_b xs (i + 1)) (sc xs (i + 2)) (sc_b xs (i + 2)) (by omega) a hI) gL_law_X6_at rfl rfl rfl (by decide +kernel) ⟨Nat.le_of_ble_eq_true rfl, Nat.le_of_ble_eq_true rfl⟩ 0 rfl rfl rfl rfl (Nat.le_of_ble_eq_true rfl) (fun q hq => E.2.2.2.2.2.2.2.2.2.1 q (List.mem_append_right _ hq)) hdj dL_law_301 rfl (fun z2 t2 q2 => ?_)
    obtain ⟨e1, hC1⟩ := q1
    obtain ⟨e2, hI1⟩ := q2
    subst e1
    subst e2
    refine x_same (tgt := 916) E dL_law_304 (by decide) ?_
    exact kk _ _ _ hC1 hI1

set_option maxRecDepth 100000 in
set_option maxHeartbeats 4000000 in
theorem law_count {p : Program} {l : Launch} {e : Env} {s : State} {m : MethodId} {below : List Frame} {meth : Method} {c : Code} {D : va_G} {T : Nat → ClassId} {ad ad2 : Nat → Nat} {A : Nat → Prop} {b L : Nat} {xs : Nat → Int32} (E : EN room_1 46 614819 p s m #[Value.ref b] meth c code 4 ret wsL_law RL D (tyX T) (WL T ad ad2) (alX ad ++ alM ad2) A) (hX : va_X b L xs s s.heap) (hbl : b < s.heap.size) (hbA : ¬ A b) (hL : L ≤ 3584) (hN : ∀ i j, i < 33 → j < 33 → ad i = ad j → i = j) (hM : ∀ i j, i < 13 → j < 13 → ad2 i = ad2 j → i = j) (hdj : ∀ i j, i < 33 → j < 13 → ad i ≠ ad2 j) {a : AB_} {s1 s2 : St_} {i : Int} (hi : 0 ≤ i ∧ i + 7 ≤ (L : Int)) (hC : CI s1 a) (hI : MI s2 a) (kk : ∀ (a1 : AB_) (t1 t2 : St_), CI t1 a1 → MI t2 a1 → XJ p l e room_1 s m #[Value.ref b] below meth c D (WL T ad ad2) A 4 (lw_Z below #[Value.ref b] s) 46 614819 (t1, t2) 916 [(0, .ref b), (1, .ref (ad 0)), (2, .ref (ad2 0)), (3, .int (ii i))] []) : XJ p l e room_1 s m #[Value.ref b] below meth c D (WL T ad ad2) A 4 (lw_Z below #[Value.ref b] s) 46 614819 (s1, s2) 309 [(0, .ref b), (1, .ref (ad 0)), (2, .ref (ad2 0)), (3, .int (ii i))] [] := by
  have k1 := hC.1
  have k2 := hI.1
  have k3 := hC.2.2.2.2.2.2.2.1
  rcases (show (0 ≤ sc xs (i + 1) ∧ sc xs (i + 1) < s1.1 2) ∨ (sc xs (i + 1) < 0 ∨ s1.1 2 ≤ sc xs (i + 1)) by omega) with c9 | c9
  · obtain ⟨r, hr⟩ : ∃ r : Nat, sc xs (i + 1) = (r : Int) := ⟨(sc xs (i + 1)).toNat, by omega⟩
    have hr9 : r < 3 := by omega
    refine x_aload_n (q := 310) E dL_law_309 1 rfl rfl ?_
    refine x_aload_n (q := 311) E dL_law_310 0 rfl rfl ?_
    refine x_iload_n (q := 312) E dL_law_311 3 rfl rfl ?_
    refine x_iconst (q := 313) E dL_law_312 rfl ?_
    refine x_iadd (q := 314) E dL_law_313 rfl ?_
    refine x_sld (q := 315) E hX hbl hbA (by omega) (by omega) (by omega) dL_law_314 rfl ?_
    refine x_ti hr ?_
    refine x_aload_n (q := 316) E dL_law_315 0 rfl rfl ?_
    refine x_iload_n (q := 317) E dL_law_316 3 rfl rfl ?_
    refine x_iconst (q := 318) E dL_law_317 rfl ?_
    refine x_iadd (q := 319) E dL_law_318 rfl ?_
    refine x_sld (q := 320) E hX hbl hbA (by omega) (by omega) (by omega) dL_law_319 rfl ?_
    refine x_aload_n (q := 321) E dL_law_320 0 rfl rfl ?_
    refine x_iload_n (q := 322) E dL_law_321 3 rfl rfl ?_
    refine x_iconst (q := 323) E dL_law_322 rfl ?_
    refine x_iadd (q := 324) E dL_law_323 rfl ?_
    refine x_sld (q := 325) E hX hbl hbA (by omega) (by omega) (by omega) dL_law_324 rfl ?_
    refine x_pLi (q := 328) (n := 3) (As := [.int (ii ((r : Int))), .int (ii (sc xs (i + 2))), .int (ii (sc xs (i + 3)))]) (r := []) E (c_X5_count l D T ad hN s1 r hr9 (sc xs (i + 2)) (sc_b xs (i + 2)) (sc xs (i + 3)) (sc_b xs (i + 3)) (by omega) a hC) gL_law_X5_count rfl rfl rfl (by decide +kernel) ⟨Nat.le_of_ble_eq_true rfl, Nat.le_of_ble_eq_true rfl⟩ 0 rfl rfl rfl rfl (Nat.le_of_ble_eq_true rfl) (fun q hq => E.2.2.2.2.2.2.2.2.2.1 q (List.mem_append_left _ hq)) hdj dL_law_325 rfl (fun z1 t1 q1 => ?_)
    refine x_aload_n (q := 329) E dL_law_328 2 rfl rfl ?_
    refine x_aload_n (q := 330) E dL_law_329 0 rfl rfl ?_
    refine x_iload_n (q := 331) E dL_law_330 3 rfl rfl ?_
    refine x_iconst (q := 332) E dL_law_331 rfl ?_
    refine x_iadd (q := 333) E dL_law_332 rfl ?_
    refine x_sld (q := 334) E hX hbl hbA (by omega) (by omega) (by omega) dL_law_333 rfl ?_
    refine x_ti hr ?_
    refine x_aload_n (q := 335) E dL_law_334 0 rfl rfl ?_
    refine x_iload_n (q := 336) E dL_law_335 3 rfl rfl ?_
    refine x_iconst (q := 337) E dL_law_336 rfl ?_
    refine x_iadd (q := 338) E dL_law_337 rfl ?_
    refine x_sld (q := 339) E hX hbl hbA (by omega) (by omega) (by omega) dL_law_338 rfl ?_
    refine x_aload_n (q := 340) E dL_law_339 0 rfl rfl ?_
    refine x_iload_n (q := 341) E dL_law_340 3 rfl rfl ?_
    refine x_iconst (q := 342) E dL_law_341 rfl ?_
    refine x_iadd (q := 343) E dL_law_342 rfl ?_
    refine x_sld (q := 344) E hX hbl hbA (by omega) (by omega) (by omega) dL_law_343 rfl ?_
    refine x_pRi (q := 347) (n := 3) (As := [.int (ii ((r : Int))), .int (ii (sc xs (i + 2))), .int (ii (sc xs (i + 3)))]) (r := [.int (ii z1)]) E (c_X6_count l D T ad2 hM s2 r hr9 (sc xs (i + 2)) (sc_b xs (i + 2)) (sc xs (i + 3)) (sc_b xs (i + 3)) (by omega) a hI) gL_law_X6_count rfl rfl rfl (by decide +kernel) ⟨Nat.le_of_ble_eq_true rfl, Nat.le_of_ble_eq_true rfl⟩ 0 rfl rfl rfl rfl (Nat.le_of_ble_eq_true rfl) (fun q hq => E.2.2.2.2.2.2.2.2.2.1 q (List.mem_append_right _ hq)) hdj dL_law_344 rfl (fun z2 t2 q2 => ?_)
    obtain ⟨e1, hC1⟩ := q1
    obtain ⟨e2, hI1⟩ := q2
    subst e1
    subst e2
    refine x_same (tgt := 916) E dL_law_347 (by decide) ?_
    exact kk _ _ _ hC1 hI1
  · refine x_aload_n (q := 310) E dL_law_309 1 rfl rfl ?_
    refine x_aload_n (q := 311) E dL_law_310 0 rfl rfl ?_
    refine x_iload_n (q := 312) E dL_law_311 3 rfl rfl ?_
    refine x_iconst (q := 313) E dL_law_312 rfl ?_
    refine x_iadd (q := 314) E dL_law_313 rfl ?_
    refine x_sld (q := 315) E hX hbl hbA (by omega) (by omega) (by omega) dL_law_314 rfl ?_
    refine x_aload_n (q := 316) E dL_law_315 0 rfl rfl ?_
    refine x_iload_n (q := 317) E dL_law_316 3 rfl rfl ?_
    refine x_iconst (q := 318) E dL_law_317 rfl ?_
    refine x_iadd (q := 319) E dL_law_318 rfl ?_
    refine x_sld (q := 320) E hX hbl hbA (by omega) (by omega) (by omega) dL_law_319 rfl ?_
    refine x_aload_n (q := 321) E dL_law_320 0 rfl rfl ?_
    refine x_iload_n (q := 322) E dL_law_321 3 rfl rfl ?_
    refine x_iconst (q := 323) E dL_law_322 rfl ?_
    refine x_iadd (q := 324) E dL_law_323 rfl ?_
    refine x_sld (q := 325) E hX hbl hbA (by omega) (by omega) (by omega) dL_law_324 rfl ?_
    refine x_pLi (q := 328) (n := 3) (As := [.int (ii (sc xs (i + 1))), .int (ii (sc xs (i + 2))), .int (ii (sc xs (i + 3)))]) (r := []) E (c_X5_count_n l D T ad hN s1 (sc xs (i + 1)) (sc_b xs (i + 1)) (sc xs (i + 2)) (sc_b xs (i + 2)) (sc xs (i + 3)) (sc_b xs (i + 3)) (by omega) a hC) gL_law_X5_count rfl rfl rfl (by decide +kernel) ⟨Nat.le_of_ble_eq_true rfl, Nat.le_of_ble_eq_true rfl⟩ 0 rfl rfl rfl rfl (Nat.le_of_ble_eq_true rfl) (fun q hq => E.2.2.2.2.2.2.2.2.2.1 q (List.mem_append_left _ hq)) hdj dL_law_325 rfl (fun z1 t1 q1 => ?_)
    refine x_aload_n (q := 329) E dL_law_328 2 rfl rfl ?_
    refine x_aload_n (q := 330) E dL_law_329 0 rfl rfl ?_
    refine x_iload_n (q := 331) E dL_law_330 3 rfl rfl ?_
    refine x_iconst (q := 332) E dL_law_331 rfl ?_
    refine x_iadd (q := 333) E dL_law_332 rfl ?_
    refine x_sld (q := 334) E hX hbl hbA (by omega) (by omega) (by omega) dL_law_333 rfl ?_
    refine x_aload_n (q := 335) E dL_law_334 0 rfl rfl ?_
    refine x_iload_n (q := 336) E dL_law_335 3 rfl rfl ?_
    refine x_iconst (q := 337) E dL_law_336 rfl ?_
    refine x_iadd (q := 338) E dL_law_337 rfl ?_
    refine x_sld (q := 339) E hX hbl hbA (by omega) (by omega) (by omega) dL_law_338 rfl ?_
    refine x_aload_n (q := 340) E dL_law_339 0 rfl rfl ?_
    refine x_iload_n (q := 341) E dL_law_340 3 rfl rfl ?_
    refine x_iconst (q := 342) E dL_law_341 rfl ?_
    refine x_iadd (q := 343) E dL_law_342 rfl ?_
    refine x_sld (q := 344) E hX hbl hbA (by omega) (by omega) (by omega) dL_law_343 rfl ?_
    refine x_pRi (q := 347) (n := 3) (As := [.int (ii (sc xs (i + 1))), .int (ii (sc xs (i + 2))), .int (ii (sc xs (i + 3)))]) (r := [.int (ii z1)]) E (c_X6_count_n l D T ad2 hM s2 (sc xs (i + 1)) (sc_b xs (i + 1)) (sc xs (i + 2)) (sc_b xs (i + 2)) (sc xs (i + 3)) (sc_b xs (i + 3)) (by omega) a hI) gL_law_X6_count rfl rfl rfl (by decide +kernel) ⟨Nat.le_of_ble_eq_true rfl, Nat.le_of_ble_eq_true rfl⟩ 0 rfl rfl rfl rfl (Nat.le_of_ble_eq_true rfl) (fun q hq => E.2.2.2.2.2.2.2.2.2.1 q (List.mem_append_right _ hq)) hdj dL_law_344 rfl (fun z2 t2 q2 => ?_)
    obtain ⟨e1, hC1⟩ := q1
    obtain ⟨e2, hI1⟩ := q2
    subst e1
    subst e2
    refine x_same (tgt := 916) E dL_law_347 (by decide) ?_
    exact kk _ _ _ hC1 hI1

set_option maxRecDepth 100000 in
set_option maxHeartbeats 4000000 in
theorem law_sum {p : Program} {l : Launch} {e : Env} {s : State} {m : MethodId} {below : List Frame} {meth : Method} {c : Code} {D : va_G} {T : Nat → ClassId} {ad ad2 : Nat → Nat} {A : Nat → Prop} {b L : Nat} {xs : Nat → Int32} (E : EN room_1 46 614819 p s m #[Value.ref b] meth c code 4 ret wsL_law RL D (tyX T) (WL T ad ad2) (alX ad ++ alM ad2) A) (hX : va_X b L xs s s.heap) (hbl : b < s.heap.size) (hbA : ¬ A b) (hL : L ≤ 3584) (hN : ∀ i j, i < 33 → j < 33 → ad i = ad j → i = j) (hM : ∀ i j, i < 13 → j < 13 → ad2 i = ad2 j → i = j) (hdj : ∀ i j, i < 33 → j < 13 → ad i ≠ ad2 j) {a : AB_} {s1 s2 : St_} {i : Int} (hi : 0 ≤ i ∧ i + 7 ≤ (L : Int)) (hC : CI s1 a) (hI : MI s2 a) (kk : ∀ (a1 : AB_) (t1 t2 : St_), CI t1 a1 → MI t2 a1 → XJ p l e room_1 s m #[Value.ref b] below meth c D (WL T ad ad2) A 4 (lw_Z below #[Value.ref b] s) 46 614819 (t1, t2) 916 [(0, .ref b), (1, .ref (ad 0)), (2, .ref (ad2 0)), (3, .int (ii i))] []) : XJ p l e room_1 s m #[Value.ref b] below meth c D (WL T ad ad2) A 4 (lw_Z below #[Value.ref b] s) 46 614819 (s1, s2) 352 [(0, .ref b), (1, .ref (ad 0)), (2, .ref (ad2 0)), (3, .int (ii i))] [] := by
  have k1 := hC.1
  have k2 := hI.1
  have k3 := hC.2.2.2.2.2.2.2.1
  rcases (show (0 ≤ sc xs (i + 1) ∧ sc xs (i + 1) < s1.1 2) ∨ (sc xs (i + 1) < 0 ∨ s1.1 2 ≤ sc xs (i + 1)) by omega) with c9 | c9
  · obtain ⟨r, hr⟩ : ∃ r : Nat, sc xs (i + 1) = (r : Int) := ⟨(sc xs (i + 1)).toNat, by omega⟩
    have hr9 : r < 3 := by omega
    refine x_aload_n (q := 353) E dL_law_352 1 rfl rfl ?_
    refine x_aload_n (q := 354) E dL_law_353 0 rfl rfl ?_
    refine x_iload_n (q := 355) E dL_law_354 3 rfl rfl ?_
    refine x_iconst (q := 356) E dL_law_355 rfl ?_
    refine x_iadd (q := 357) E dL_law_356 rfl ?_
    refine x_sld (q := 358) E hX hbl hbA (by omega) (by omega) (by omega) dL_law_357 rfl ?_
    refine x_ti hr ?_
    refine x_aload_n (q := 359) E dL_law_358 0 rfl rfl ?_
    refine x_iload_n (q := 360) E dL_law_359 3 rfl rfl ?_
    refine x_iconst (q := 361) E dL_law_360 rfl ?_
    refine x_iadd (q := 362) E dL_law_361 rfl ?_
    refine x_sld (q := 363) E hX hbl hbA (by omega) (by omega) (by omega) dL_law_362 rfl ?_
    refine x_pLi (q := 366) (n := 2) (As := [.int (ii ((r : Int))), .int (ii (sc xs (i + 2)))]) (r := []) E (c_X5_sum l D T ad hN s1 r hr9 (sc xs (i + 2)) (sc_b xs (i + 2)) (by omega) a hC) gL_law_X5_sum rfl rfl rfl (by decide +kernel) ⟨Nat.le_of_ble_eq_true rfl, Nat.le_of_ble_eq_true rfl⟩ 0 rfl rfl rfl rfl (Nat.le_of_ble_eq_true rfl) (fun q hq => E.2.2.2.2.2.2.2.2.2.1 q (List.mem_append_left _ hq)) hdj dL_law_363 rfl (fun z1 t1 q1 => ?_)
    refine x_aload_n (q := 367) E dL_law_366 2 rfl rfl ?_
    refine x_aload_n (q := 368) E dL_law_367 0 rfl rfl ?_
    refine x_iload_n (q := 369) E dL_law_368 3 rfl rfl ?_
    refine x_iconst (q := 370) E dL_law_369 rfl ?_
    refine x_iadd (q := 371) E dL_law_370 rfl ?_
    refine x_sld (q := 372) E hX hbl hbA (by omega) (by omega) (by omega) dL_law_371 rfl ?_
    refine x_ti hr ?_
    refine x_aload_n (q := 373) E dL_law_372 0 rfl rfl ?_
    refine x_iload_n (q := 374) E dL_law_373 3 rfl rfl ?_
    refine x_iconst (q := 375) E dL_law_374 rfl ?_
    refine x_iadd (q := 376) E dL_law_375 rfl ?_
    refine x_sld (q := 377) E hX hbl hbA (by omega) (by omega) (by omega) dL_law_376 rfl ?_
    refine x_pRi (q := 380) (n := 2) (As := [.int (ii ((r : Int))), .int (ii (sc xs (i + 2)))]) (r := [.int (ii z1)]) E (c_X6_sum l D T ad2 hM s2 r hr9 (sc xs (i + 2)) (sc_b xs (i + 2)) (by omega) a hI) gL_law_X6_sum rfl rfl rfl (by decide +kernel) ⟨Nat.le_of_ble_eq_true rfl, Nat.le_of_ble_eq_true rfl⟩ 0 rfl rfl rfl rfl (Nat.le_of_ble_eq_true rfl) (fun q hq => E.2.2.2.2.2.2.2.2.2.1 q (List.mem_append_right _ hq)) hdj dL_law_377 rfl (fun z2 t2 q2 => ?_)
    obtain ⟨e1, hC1⟩ := q1
    obtain ⟨e2, hI1⟩ := q2
    subst e1
    subst e2
    refine x_same (tgt := 916) E dL_law_380 (by decide) ?_
    exact kk _ _ _ hC1 hI1
  · refine x_aload_n (q := 353) E dL_law_352 1 rfl rfl ?_
    refine x_aload_n (q := 354) E dL_law_353 0 rfl rfl ?_
    refine x_iload_n (q := 355) E dL_law_354 3 rfl rfl ?_
    refine x_iconst (q := 356) E dL_law_355 rfl ?_
    refine x_iadd (q := 357) E dL_law_356 rfl ?_
    refine x_sld (q := 358) E hX hbl hbA (by omega) (by omega) (by omega) dL_law_357 rfl ?_
    refine x_aload_n (q := 359) E dL_law_358 0 rfl rfl ?_
    refine x_iload_n (q := 360) E dL_law_359 3 rfl rfl ?_
    refine x_iconst (q := 361) E dL_law_360 rfl ?_
    refine x_iadd (q := 362) E dL_law_361 rfl ?_
    refine x_sld (q := 363) E hX hbl hbA (by omega) (by omega) (by omega) dL_law_362 rfl ?_
    refine x_pLi (q := 366) (n := 2) (As := [.int (ii (sc xs (i + 1))), .int (ii (sc xs (i + 2)))]) (r := []) E (c_X5_sum_n l D T ad hN s1 (sc xs (i + 1)) (sc_b xs (i + 1)) (sc xs (i + 2)) (sc_b xs (i + 2)) (by omega) a hC) gL_law_X5_sum rfl rfl rfl (by decide +kernel) ⟨Nat.le_of_ble_eq_true rfl, Nat.le_of_ble_eq_true rfl⟩ 0 rfl rfl rfl rfl (Nat.le_of_ble_eq_true rfl) (fun q hq => E.2.2.2.2.2.2.2.2.2.1 q (List.mem_append_left _ hq)) hdj dL_law_363 rfl (fun z1 t1 q1 => ?_)
    refine x_aload_n (q := 367) E dL_law_366 2 rfl rfl ?_
    refine x_aload_n (q := 368) E dL_law_367 0 rfl rfl ?_
    refine x_iload_n (q := 369) E dL_law_368 3 rfl rfl ?_
    refine x_iconst (q := 370) E dL_law_369 rfl ?_
    refine x_iadd (q := 371) E dL_law_370 rfl ?_
    refine x_sld (q := 372) E hX hbl hbA (by omega) (by omega) (by omega) dL_law_371 rfl ?_
    refine x_aload_n (q := 373) E dL_law_372 0 rfl rfl ?_
    refine x_iload_n (q := 374) E dL_law_373 3 rfl rfl ?_
    refine x_iconst (q := 375) E dL_law_374 rfl ?_
    refine x_iadd (q := 376) E dL_law_375 rfl ?_
    refine x_sld (q := 377) E hX hbl hbA (by omega) (by omega) (by omega) dL_law_376 rfl ?_
    refine x_pRi (q := 380) (n := 2) (As := [.int (ii (sc xs (i + 1))), .int (ii (sc xs (i + 2)))]) (r := [.int (ii z1)]) E (c_X6_sum_n l D T ad2 hM s2 (sc xs (i + 1)) (sc_b xs (i + 1)) (sc xs (i + 2)) (sc_b xs (i + 2)) (by omega) a hI) gL_law_X6_sum rfl rfl rfl (by decide +kernel) ⟨Nat.le_of_ble_eq_true rfl, Nat.le_of_ble_eq_true rfl⟩ 0 rfl rfl rfl rfl (Nat.le_of_ble_eq_true rfl) (fun q hq => E.2.2.2.2.2.2.2.2.2.1 q (List.mem_append_right _ hq)) hdj dL_law_377 rfl (fun z2 t2 q2 => ?_)
    obtain ⟨e1, hC1⟩ := q1
    obtain ⟨e2, hI1⟩ := q2
    subst e1
    subst e2
    refine x_same (tgt := 916) E dL_law_380 (by decide) ?_
    exact kk _ _ _ hC1 hI1
