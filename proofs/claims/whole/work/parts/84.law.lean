/-! THE LAW: THE TWO ANSWER ALIKE -/
theorem gk_slen {p : Program} {l : Launch} {e : Env} {R : Room} {s : State} {m : MethodId} {args : Array Value} {below : List Frame} {meth : Method} {c : Code} {E : Ev} {k0 nL cells slots : Nat} {Q : State → Prop} {cc : ByteArray} {own : String} {ret : Option FieldType} {g : IG} {r : RG} {z : Int64} {pc pc' : Nat} {lv : LV} {st : List Value} (cx : Cx p s m args meth c E 115 cc nL own ret) {b L : Nat} {xs : Nat → Int32} (hX : va_X b L xs s s.heap) (hbl : b < s.heap.size) (hbA : ¬ Ad E 115 b) (hdg : decode cc pc = .ok (.arraylength, 1)) (hp : pc + 1 = pc')
    (kk : GoK p l e R s m args below meth c E k0 nL cells slots Q g r z pc' lv (.int (nI L) :: st)) : GoK p l e R s m args below meth c E k0 nL cells slots Q g r z pc lv (.ref b :: st) := by
  subst hp
  exact fun H locs ls a b9 h => va_slen cx.1.1 cx.1.2.1 hX hbl hbA b9 hdg (kk H locs ls a b9 h)
theorem gk_sld {p : Program} {l : Launch} {e : Env} {R : Room} {s : State} {m : MethodId} {args : Array Value} {below : List Frame} {meth : Method} {c : Code} {E : Ev} {k0 nL cells slots : Nat} {Q : State → Prop} {cc : ByteArray} {own : String} {ret : Option FieldType} {g : IG} {r : RG} {z : Int64} {pc pc' : Nat} {lv : LV} {st : List Value} (cx : Cx p s m args meth c E 115 cc nL own ret) {b L : Nat} {xs : Nat → Int32} (hX : va_X b L xs s s.heap) (hbl : b < s.heap.size) (hbA : ¬ Ad E 115 b) (hL : L ≤ 3072) {k : Nat} (hk : k < L) (hdg : decode cc pc = .ok (.iaload, 1)) (hp : pc + 1 = pc')
    (kk : GoK p l e R s m args below meth c E k0 nL cells slots Q g r z pc' lv (.int (xs k) :: st)) : GoK p l e R s m args below meth c E k0 nL cells slots Q g r z pc lv (.int (nI k) :: .ref b :: st) := by
  subst hp
  intro H locs ls a b9 h
  refine va_sld cx.1.1 cx.1.2.1 hX hbl hbA b9 (vp_in_nI hk (by omega)) hdg ?_
  rw [nI_clamp (by omega)]
  exact kk H locs ls a b9 h
theorem gk_lret {p : Program} {l : Launch} {e : Env} {s : State} {m : MethodId} {below : List Frame} {meth : Method} {c : Code} {E : Ev} {b : Nat} {cells slots : Nat} {own : String} {g : IG} {r : RG} {z : Int64} {pc : Nat} {lv : LV} (cx : Cx p s m #[Value.ref b] meth c E 115 code 4 own ret) (hA0 : ∀ q, Ad E 115 q → s.heap.size ≤ q) (hc : cells ≤ 600000) (hs : slots ≤ 7302250) (hdg : decode code pc = .ok (.ireturn, 1)) : GoK p l e room_1 s m #[Value.ref b] below meth c E 115 4 cells slots (lw_Z below #[Value.ref b] s) g r z pc lv [.int 1] := by
  intro H locs ls a b9 h
  refine va_forget (fun q hq => hA0 _ (b9.2.2 q hq)) (W.widen (k := 600000) (n := 7302250) hc hs ?_)
  exact lw_ret cx.1.1 cx.1.2.1 cx.2.1 cx.2.2.1 hdg
theorem lgc_z {x y : Int64} (h : x = y) : lg_cmp x y = 0 := by
  subst h
  unfold lg_cmp
  simp
set_option maxHeartbeats 2000000 in
set_option maxRecDepth 20000 in
theorem law_0 {p : Program} {l : Launch} {e : Env} {s : State} {m : MethodId} {below : List Frame} {meth : Method} {c : Code} {E : Ev} {rt0 : Option FieldType} {b L : Nat} {xs : Nat → Int32} (cx : Cx p s m #[Value.ref b] meth c E 115 cL_law 4 RL rt0) (hX : va_X b L xs s s.heap) (hbl : b < s.heap.size) (hbA : ¬ Ad E 115 b) (hL : L ≤ 3072) {i : Nat} (hi : i + 6 ≤ L) (kk : ∀ (g : IG) (o : Option Nat) (z : Int64), InvE g → GoK p l e room_1 s m #[Value.ref b] below meth c E 115 4 115 26025 (lw_Z below #[Value.ref b] s) g (RFo o) z 1119 [(3, .int (nI i)), (2, .ref (E.2.1 88)), (1, .ref (E.2.1 0)), (0, .ref b)] []) {g : IG} {o : Option Nat} {z : Int64} {hn vn ru tc : Nat} {CS : CSt} (h : Inv g g hn vn ru tc CS)  : GoK p l e room_1 s m #[Value.ref b] below meth c E 115 4 115 26025 (lw_Z below #[Value.ref b] s) g (RFo o) z 168 [(3, .int (nI i)), (2, .ref (E.2.1 88)), (1, .ref (E.2.1 0)), (0, .ref b)] [] := by
  refine gk_aload_n (pc' := 169) cx dL_law_168 rfl rfl ?_
  refine gk_aload_n (pc' := 170) cx dL_law_169 rfl rfl ?_
  refine gk_iload_n (pc' := 171) cx dL_law_170 rfl rfl ?_
  refine gk_iconst (pc' := 172) cx 1 dL_law_171 rfl rfl ?_
  refine gk_iadd (pc' := 173) cx dL_law_172 rfl ?_
  refine gk_val (w := .int (nI (i + 1))) (congrArg Value.int (nI_add i 1)) ?_
  refine gk_sld (pc' := 174) cx hX hbl hbA hL (k := i + 1) (by omega) dL_law_173 rfl ?_
  refine gk_aload_n (pc' := 175) cx dL_law_174 rfl rfl ?_
  refine gk_iload_n (pc' := 176) cx dL_law_175 rfl rfl ?_
  refine gk_iconst (pc' := 177) cx 2 dL_law_176 rfl rfl ?_
  refine gk_iadd (pc' := 178) cx dL_law_177 rfl ?_
  refine gk_val (w := .int (nI (i + 2))) (congrArg Value.int (nI_add i 2)) ?_
  refine gk_sld (pc' := 179) cx hX hbl hbA hL (k := i + 2) (by omega) dL_law_178 rfl ?_
  refine gk_aload_n (pc' := 180) cx dL_law_179 rfl rfl ?_
  refine gk_iload_n (pc' := 181) cx dL_law_180 rfl rfl ?_
  refine gk_iconst (pc' := 182) cx 3 dL_law_181 rfl rfl ?_
  refine gk_iadd (pc' := 183) cx dL_law_182 rfl ?_
  refine gk_val (w := .int (nI (i + 3))) (congrArg Value.int (nI_add i 3)) ?_
  refine gk_sld (pc' := 184) cx hX hbl hbA hL (k := i + 3) (by omega) dL_law_183 rfl ?_
  refine gk_cVI (pc' := 187) cx (Nat.le_of_ble_eq_true rfl) (c_X5_set l E h.2.1.1.1 h.2.1.1.2 h.2.1.2.1.1 h.2.1.2.1.2.1 (xs (i + 1)) (xs (i + 2)) (xs (i + 3))) mX5_set lL_13 dL_law_184 kq0 (ltn rfl) (ltn rfl) rfl rfl rfl ⟨(Nat.le_of_ble_eq_true rfl), (Nat.le_of_ble_eq_true rfl)⟩ (Nat.le_of_ble_eq_true rfl) rfl ⟨(Nat.le_of_ble_eq_true rfl), (Nat.le_of_ble_eq_true rfl)⟩ (fun x1 g1 h1 => ?_)
  obtain ⟨p1, k1⟩ := st_set h (xs (i + 1)) (xs (i + 2)) (xs (i + 3)) h1
  refine gk_aload_n (pc' := 188) cx dL_law_187 rfl rfl ?_
  refine gk_aload_n (pc' := 189) cx dL_law_188 rfl rfl ?_
  refine gk_iload_n (pc' := 190) cx dL_law_189 rfl rfl ?_
  refine gk_iconst (pc' := 191) cx 1 dL_law_190 rfl rfl ?_
  refine gk_iadd (pc' := 192) cx dL_law_191 rfl ?_
  refine gk_val (w := .int (nI (i + 1))) (congrArg Value.int (nI_add i 1)) ?_
  refine gk_sld (pc' := 193) cx hX hbl hbA hL (k := i + 1) (by omega) dL_law_192 rfl ?_
  refine gk_aload_n (pc' := 194) cx dL_law_193 rfl rfl ?_
  refine gk_iload_n (pc' := 195) cx dL_law_194 rfl rfl ?_
  refine gk_iconst (pc' := 196) cx 2 dL_law_195 rfl rfl ?_
  refine gk_iadd (pc' := 197) cx dL_law_196 rfl ?_
  refine gk_val (w := .int (nI (i + 2))) (congrArg Value.int (nI_add i 2)) ?_
  refine gk_sld (pc' := 198) cx hX hbl hbA hL (k := i + 2) (by omega) dL_law_197 rfl ?_
  refine gk_aload_n (pc' := 199) cx dL_law_198 rfl rfl ?_
  refine gk_iload_n (pc' := 200) cx dL_law_199 rfl rfl ?_
  refine gk_iconst (pc' := 201) cx 3 dL_law_200 rfl rfl ?_
  refine gk_iadd (pc' := 202) cx dL_law_201 rfl ?_
  refine gk_val (w := .int (nI (i + 3))) (congrArg Value.int (nI_add i 3)) ?_
  refine gk_sld (pc' := 203) cx hX hbl hbA hL (k := i + 3) (by omega) dL_law_202 rfl ?_
  refine gk_cVI (pc' := 206) cx (Nat.le_of_ble_eq_true rfl) (c_X6_set l E h.2.1.1.1 h.2.1.1.2 p1.1 p1.2 (xs (i + 1)) (xs (i + 2)) (xs (i + 3))) mX6_set lL_17 dL_law_203 kq88 (ltn rfl) (ltn rfl) rfl rfl rfl ⟨(Nat.le_of_ble_eq_true rfl), (Nat.le_of_ble_eq_true rfl)⟩ (Nat.le_of_ble_eq_true rfl) rfl ⟨(Nat.le_of_ble_eq_true rfl), (Nat.le_of_ble_eq_true rfl)⟩ (fun x2 g2 h2 => ?_)
  obtain ⟨e9, i9⟩ := k1 _ _ h2
  refine gk_icmp_eq (pc' := 209) cx 1119 dL_law_206 rfl rfl (fun _ => kk _ _ _ i9) (fun hh => absurd e9 hh)
set_option maxHeartbeats 2000000 in
set_option maxRecDepth 20000 in
theorem law_1 {p : Program} {l : Launch} {e : Env} {s : State} {m : MethodId} {below : List Frame} {meth : Method} {c : Code} {E : Ev} {rt0 : Option FieldType} {b L : Nat} {xs : Nat → Int32} (cx : Cx p s m #[Value.ref b] meth c E 115 cL_law 4 RL rt0) (hX : va_X b L xs s s.heap) (hbl : b < s.heap.size) (hbA : ¬ Ad E 115 b) (hL : L ≤ 3072) {i : Nat} (hi : i + 6 ≤ L) (kk : ∀ (g : IG) (o : Option Nat) (z : Int64), InvE g → GoK p l e room_1 s m #[Value.ref b] below meth c E 115 4 115 26025 (lw_Z below #[Value.ref b] s) g (RFo o) z 1119 [(3, .int (nI i)), (2, .ref (E.2.1 88)), (1, .ref (E.2.1 0)), (0, .ref b)] []) {g : IG} {o : Option Nat} {z : Int64} {hn vn ru tc : Nat} {CS : CSt} (h : Inv g g hn vn ru tc CS)  : GoK p l e room_1 s m #[Value.ref b] below meth c E 115 4 115 26025 (lw_Z below #[Value.ref b] s) g (RFo o) z 211 [(3, .int (nI i)), (2, .ref (E.2.1 88)), (1, .ref (E.2.1 0)), (0, .ref b)] [] := by
  obtain ⟨p1, e9, i9⟩ := st_hand h (xs (i + 1)) (xs (i + 2)) (xs (i + 3))
  refine gk_aload_n (pc' := 212) cx dL_law_211 rfl rfl ?_
  refine gk_aload_n (pc' := 213) cx dL_law_212 rfl rfl ?_
  refine gk_iload_n (pc' := 214) cx dL_law_213 rfl rfl ?_
  refine gk_iconst (pc' := 215) cx 1 dL_law_214 rfl rfl ?_
  refine gk_iadd (pc' := 216) cx dL_law_215 rfl ?_
  refine gk_val (w := .int (nI (i + 1))) (congrArg Value.int (nI_add i 1)) ?_
  refine gk_sld (pc' := 217) cx hX hbl hbA hL (k := i + 1) (by omega) dL_law_216 rfl ?_
  refine gk_aload_n (pc' := 218) cx dL_law_217 rfl rfl ?_
  refine gk_iload_n (pc' := 219) cx dL_law_218 rfl rfl ?_
  refine gk_iconst (pc' := 220) cx 2 dL_law_219 rfl rfl ?_
  refine gk_iadd (pc' := 221) cx dL_law_220 rfl ?_
  refine gk_val (w := .int (nI (i + 2))) (congrArg Value.int (nI_add i 2)) ?_
  refine gk_sld (pc' := 222) cx hX hbl hbA hL (k := i + 2) (by omega) dL_law_221 rfl ?_
  refine gk_aload_n (pc' := 223) cx dL_law_222 rfl rfl ?_
  refine gk_iload_n (pc' := 224) cx dL_law_223 rfl rfl ?_
  refine gk_iconst (pc' := 225) cx 3 dL_law_224 rfl rfl ?_
  refine gk_iadd (pc' := 226) cx dL_law_225 rfl ?_
  refine gk_val (w := .int (nI (i + 3))) (congrArg Value.int (nI_add i 3)) ?_
  refine gk_sld (pc' := 227) cx hX hbl hbA hL (k := i + 3) (by omega) dL_law_226 rfl ?_
  refine gk_cVi (pc' := 230) cx (Nat.le_of_ble_eq_true rfl) (c_X5_hand l E h.2.1.1.1 h.2.1.2.1.1 (xs (i + 1)) (xs (i + 2)) (xs (i + 3))) mX5_hand lL_18 dL_law_227 kq0 (ltn rfl) (ltn rfl) rfl rfl rfl ⟨(Nat.le_of_ble_eq_true rfl), (Nat.le_of_ble_eq_true rfl)⟩ (Nat.le_of_ble_eq_true rfl) rfl ⟨(Nat.le_of_ble_eq_true rfl), (Nat.le_of_ble_eq_true rfl)⟩ ?_
  refine gk_aload_n (pc' := 231) cx dL_law_230 rfl rfl ?_
  refine gk_aload_n (pc' := 232) cx dL_law_231 rfl rfl ?_
  refine gk_iload_n (pc' := 233) cx dL_law_232 rfl rfl ?_
  refine gk_iconst (pc' := 234) cx 1 dL_law_233 rfl rfl ?_
  refine gk_iadd (pc' := 235) cx dL_law_234 rfl ?_
  refine gk_val (w := .int (nI (i + 1))) (congrArg Value.int (nI_add i 1)) ?_
  refine gk_sld (pc' := 236) cx hX hbl hbA hL (k := i + 1) (by omega) dL_law_235 rfl ?_
  refine gk_aload_n (pc' := 237) cx dL_law_236 rfl rfl ?_
  refine gk_iload_n (pc' := 238) cx dL_law_237 rfl rfl ?_
  refine gk_iconst (pc' := 239) cx 2 dL_law_238 rfl rfl ?_
  refine gk_iadd (pc' := 240) cx dL_law_239 rfl ?_
  refine gk_val (w := .int (nI (i + 2))) (congrArg Value.int (nI_add i 2)) ?_
  refine gk_sld (pc' := 241) cx hX hbl hbA hL (k := i + 2) (by omega) dL_law_240 rfl ?_
  refine gk_aload_n (pc' := 242) cx dL_law_241 rfl rfl ?_
  refine gk_iload_n (pc' := 243) cx dL_law_242 rfl rfl ?_
  refine gk_iconst (pc' := 244) cx 3 dL_law_243 rfl rfl ?_
  refine gk_iadd (pc' := 245) cx dL_law_244 rfl ?_
  refine gk_val (w := .int (nI (i + 3))) (congrArg Value.int (nI_add i 3)) ?_
  refine gk_sld (pc' := 246) cx hX hbl hbA hL (k := i + 3) (by omega) dL_law_245 rfl ?_
  refine gk_cVi (pc' := 249) cx (Nat.le_of_ble_eq_true rfl) (c_X6_hand l E h.2.1.1.1 p1 (xs (i + 1)) (xs (i + 2)) (xs (i + 3))) mX6_hand lL_21 dL_law_246 kq88 (ltn rfl) (ltn rfl) rfl rfl rfl ⟨(Nat.le_of_ble_eq_true rfl), (Nat.le_of_ble_eq_true rfl)⟩ (Nat.le_of_ble_eq_true rfl) rfl ⟨(Nat.le_of_ble_eq_true rfl), (Nat.le_of_ble_eq_true rfl)⟩ ?_
  refine gk_icmp_eq (pc' := 252) cx 1119 dL_law_249 rfl rfl (fun _ => kk _ _ _ i9) (fun hh => absurd e9 hh)
set_option maxHeartbeats 2000000 in
set_option maxRecDepth 20000 in
theorem law_2 {p : Program} {l : Launch} {e : Env} {s : State} {m : MethodId} {below : List Frame} {meth : Method} {c : Code} {E : Ev} {rt0 : Option FieldType} {b L : Nat} {xs : Nat → Int32} (cx : Cx p s m #[Value.ref b] meth c E 115 cL_law 4 RL rt0) (hX : va_X b L xs s s.heap) (hbl : b < s.heap.size) (hbA : ¬ Ad E 115 b) (hL : L ≤ 3072) {i : Nat} (hi : i + 6 ≤ L) (kk : ∀ (g : IG) (o : Option Nat) (z : Int64), InvE g → GoK p l e room_1 s m #[Value.ref b] below meth c E 115 4 115 26025 (lw_Z below #[Value.ref b] s) g (RFo o) z 1119 [(3, .int (nI i)), (2, .ref (E.2.1 88)), (1, .ref (E.2.1 0)), (0, .ref b)] []) {g : IG} {o : Option Nat} {z : Int64} {hn vn ru tc : Nat} {CS : CSt} (h : Inv g g hn vn ru tc CS)  : GoK p l e room_1 s m #[Value.ref b] below meth c E 115 4 115 26025 (lw_Z below #[Value.ref b] s) g (RFo o) z 254 [(3, .int (nI i)), (2, .ref (E.2.1 88)), (1, .ref (E.2.1 0)), (0, .ref b)] [] := by
  obtain ⟨p1, e9, i9⟩ := st_visit h (xs (i + 1)) (xs (i + 2))
  refine gk_aload_n (pc' := 255) cx dL_law_254 rfl rfl ?_
  refine gk_aload_n (pc' := 256) cx dL_law_255 rfl rfl ?_
  refine gk_iload_n (pc' := 257) cx dL_law_256 rfl rfl ?_
  refine gk_iconst (pc' := 258) cx 1 dL_law_257 rfl rfl ?_
  refine gk_iadd (pc' := 259) cx dL_law_258 rfl ?_
  refine gk_val (w := .int (nI (i + 1))) (congrArg Value.int (nI_add i 1)) ?_
  refine gk_sld (pc' := 260) cx hX hbl hbA hL (k := i + 1) (by omega) dL_law_259 rfl ?_
  refine gk_aload_n (pc' := 261) cx dL_law_260 rfl rfl ?_
  refine gk_iload_n (pc' := 262) cx dL_law_261 rfl rfl ?_
  refine gk_iconst (pc' := 263) cx 2 dL_law_262 rfl rfl ?_
  refine gk_iadd (pc' := 264) cx dL_law_263 rfl ?_
  refine gk_val (w := .int (nI (i + 2))) (congrArg Value.int (nI_add i 2)) ?_
  refine gk_sld (pc' := 265) cx hX hbl hbA hL (k := i + 2) (by omega) dL_law_264 rfl ?_
  refine gk_cVi (pc' := 268) cx (Nat.le_of_ble_eq_true rfl) (c_X5_visit l E h.2.1.1.2 h.2.1.2.1.2.1 (xs (i + 1)) (xs (i + 2))) mX5_visit lL_22 dL_law_265 kq0 (ltn rfl) (ltn rfl) rfl rfl rfl ⟨(Nat.le_of_ble_eq_true rfl), (Nat.le_of_ble_eq_true rfl)⟩ (Nat.le_of_ble_eq_true rfl) rfl ⟨(Nat.le_of_ble_eq_true rfl), (Nat.le_of_ble_eq_true rfl)⟩ ?_
  refine gk_aload_n (pc' := 269) cx dL_law_268 rfl rfl ?_
  refine gk_aload_n (pc' := 270) cx dL_law_269 rfl rfl ?_
  refine gk_iload_n (pc' := 271) cx dL_law_270 rfl rfl ?_
  refine gk_iconst (pc' := 272) cx 1 dL_law_271 rfl rfl ?_
  refine gk_iadd (pc' := 273) cx dL_law_272 rfl ?_
  refine gk_val (w := .int (nI (i + 1))) (congrArg Value.int (nI_add i 1)) ?_
  refine gk_sld (pc' := 274) cx hX hbl hbA hL (k := i + 1) (by omega) dL_law_273 rfl ?_
  refine gk_aload_n (pc' := 275) cx dL_law_274 rfl rfl ?_
  refine gk_iload_n (pc' := 276) cx dL_law_275 rfl rfl ?_
  refine gk_iconst (pc' := 277) cx 2 dL_law_276 rfl rfl ?_
  refine gk_iadd (pc' := 278) cx dL_law_277 rfl ?_
  refine gk_val (w := .int (nI (i + 2))) (congrArg Value.int (nI_add i 2)) ?_
  refine gk_sld (pc' := 279) cx hX hbl hbA hL (k := i + 2) (by omega) dL_law_278 rfl ?_
  refine gk_cVi (pc' := 282) cx (Nat.le_of_ble_eq_true rfl) (c_X6_visit l E h.2.1.1.1 h.2.1.1.2 p1.1 p1.2 (xs (i + 1)) (xs (i + 2))) mX6_visit lL_26 dL_law_279 kq88 (ltn rfl) (ltn rfl) rfl rfl rfl ⟨(Nat.le_of_ble_eq_true rfl), (Nat.le_of_ble_eq_true rfl)⟩ (Nat.le_of_ble_eq_true rfl) rfl ⟨(Nat.le_of_ble_eq_true rfl), (Nat.le_of_ble_eq_true rfl)⟩ ?_
  refine gk_icmp_eq (pc' := 285) cx 1119 dL_law_282 rfl rfl (fun _ => kk _ _ _ i9) (fun hh => absurd e9 hh)
set_option maxHeartbeats 2000000 in
set_option maxRecDepth 20000 in
theorem law_3 {p : Program} {l : Launch} {e : Env} {s : State} {m : MethodId} {below : List Frame} {meth : Method} {c : Code} {E : Ev} {rt0 : Option FieldType} {b L : Nat} {xs : Nat → Int32} (cx : Cx p s m #[Value.ref b] meth c E 115 cL_law 4 RL rt0) (hX : va_X b L xs s s.heap) (hbl : b < s.heap.size) (hbA : ¬ Ad E 115 b) (hL : L ≤ 3072) {i : Nat} (hi : i + 6 ≤ L) (kk : ∀ (g : IG) (o : Option Nat) (z : Int64), InvE g → GoK p l e room_1 s m #[Value.ref b] below meth c E 115 4 115 26025 (lw_Z below #[Value.ref b] s) g (RFo o) z 1119 [(3, .int (nI i)), (2, .ref (E.2.1 88)), (1, .ref (E.2.1 0)), (0, .ref b)] []) {g : IG} {o : Option Nat} {z : Int64} {hn vn ru tc : Nat} {CS : CSt} (h : Inv g g hn vn ru tc CS)  : GoK p l e room_1 s m #[Value.ref b] below meth c E 115 4 115 26025 (lw_Z below #[Value.ref b] s) g (RFo o) z 287 [(3, .int (nI i)), (2, .ref (E.2.1 88)), (1, .ref (E.2.1 0)), (0, .ref b)] [] := by
  refine gk_aload_n (pc' := 288) cx dL_law_287 rfl rfl ?_
  refine gk_aload_n (pc' := 289) cx dL_law_288 rfl rfl ?_
  refine gk_iload_n (pc' := 290) cx dL_law_289 rfl rfl ?_
  refine gk_iconst (pc' := 291) cx 1 dL_law_290 rfl rfl ?_
  refine gk_iadd (pc' := 292) cx dL_law_291 rfl ?_
  refine gk_val (w := .int (nI (i + 1))) (congrArg Value.int (nI_add i 1)) ?_
  refine gk_sld (pc' := 293) cx hX hbl hbA hL (k := i + 1) (by omega) dL_law_292 rfl ?_
  refine gk_aload_n (pc' := 294) cx dL_law_293 rfl rfl ?_
  refine gk_iload_n (pc' := 295) cx dL_law_294 rfl rfl ?_
  refine gk_iconst (pc' := 296) cx 2 dL_law_295 rfl rfl ?_
  refine gk_iadd (pc' := 297) cx dL_law_296 rfl ?_
  refine gk_val (w := .int (nI (i + 2))) (congrArg Value.int (nI_add i 2)) ?_
  refine gk_sld (pc' := 298) cx hX hbl hbA hL (k := i + 2) (by omega) dL_law_297 rfl ?_
  refine gk_cVI (pc' := 301) cx (Nat.le_of_ble_eq_true rfl) (c_X5_told l E h.2.1.1.1 h.2.1.1.2 h.2.1.2.1.1 h.2.1.2.1.2.1 (xs (i + 1)) (xs (i + 2))) mX5_told lL_27 dL_law_298 kq0 (ltn rfl) (ltn rfl) rfl rfl rfl ⟨(Nat.le_of_ble_eq_true rfl), (Nat.le_of_ble_eq_true rfl)⟩ (Nat.le_of_ble_eq_true rfl) rfl ⟨(Nat.le_of_ble_eq_true rfl), (Nat.le_of_ble_eq_true rfl)⟩ (fun x1 g1 h1 => ?_)
  obtain ⟨p1, k1⟩ := st_told h (xs (i + 1)) (xs (i + 2)) h1
  refine gk_aload_n (pc' := 302) cx dL_law_301 rfl rfl ?_
  refine gk_aload_n (pc' := 303) cx dL_law_302 rfl rfl ?_
  refine gk_iload_n (pc' := 304) cx dL_law_303 rfl rfl ?_
  refine gk_iconst (pc' := 305) cx 1 dL_law_304 rfl rfl ?_
  refine gk_iadd (pc' := 306) cx dL_law_305 rfl ?_
  refine gk_val (w := .int (nI (i + 1))) (congrArg Value.int (nI_add i 1)) ?_
  refine gk_sld (pc' := 307) cx hX hbl hbA hL (k := i + 1) (by omega) dL_law_306 rfl ?_
  refine gk_aload_n (pc' := 308) cx dL_law_307 rfl rfl ?_
  refine gk_iload_n (pc' := 309) cx dL_law_308 rfl rfl ?_
  refine gk_iconst (pc' := 310) cx 2 dL_law_309 rfl rfl ?_
  refine gk_iadd (pc' := 311) cx dL_law_310 rfl ?_
  refine gk_val (w := .int (nI (i + 2))) (congrArg Value.int (nI_add i 2)) ?_
  refine gk_sld (pc' := 312) cx hX hbl hbA hL (k := i + 2) (by omega) dL_law_311 rfl ?_
  refine gk_cVI (pc' := 315) cx (Nat.le_of_ble_eq_true rfl) (c_X6_told l E h.2.1.1.1 h.2.1.1.2 p1.1 p1.2 (xs (i + 1)) (xs (i + 2))) mX6_told lL_30 dL_law_312 kq88 (ltn rfl) (ltn rfl) rfl rfl rfl ⟨(Nat.le_of_ble_eq_true rfl), (Nat.le_of_ble_eq_true rfl)⟩ (Nat.le_of_ble_eq_true rfl) rfl ⟨(Nat.le_of_ble_eq_true rfl), (Nat.le_of_ble_eq_true rfl)⟩ (fun x2 g2 h2 => ?_)
  obtain ⟨e9, i9⟩ := k1 _ _ h2
  refine gk_icmp_eq (pc' := 318) cx 1119 dL_law_315 rfl rfl (fun _ => kk _ _ _ i9) (fun hh => absurd e9 hh)
set_option maxHeartbeats 2000000 in
set_option maxRecDepth 20000 in
theorem law_4 {p : Program} {l : Launch} {e : Env} {s : State} {m : MethodId} {below : List Frame} {meth : Method} {c : Code} {E : Ev} {rt0 : Option FieldType} {b L : Nat} {xs : Nat → Int32} (cx : Cx p s m #[Value.ref b] meth c E 115 cL_law 4 RL rt0) (hX : va_X b L xs s s.heap) (hbl : b < s.heap.size) (hbA : ¬ Ad E 115 b) (hL : L ≤ 3072) {i : Nat} (hi : i + 6 ≤ L) (kk : ∀ (g : IG) (o : Option Nat) (z : Int64), InvE g → GoK p l e room_1 s m #[Value.ref b] below meth c E 115 4 115 26025 (lw_Z below #[Value.ref b] s) g (RFo o) z 1119 [(3, .int (nI i)), (2, .ref (E.2.1 88)), (1, .ref (E.2.1 0)), (0, .ref b)] []) {g : IG} {o : Option Nat} {z : Int64} {hn vn ru tc : Nat} {CS : CSt} (h : Inv g g hn vn ru tc CS)  : GoK p l e room_1 s m #[Value.ref b] below meth c E 115 4 115 26025 (lw_Z below #[Value.ref b] s) g (RFo o) z 320 [(3, .int (nI i)), (2, .ref (E.2.1 88)), (1, .ref (E.2.1 0)), (0, .ref b)] [] := by
  obtain ⟨sz, s1, s2, p1, e9, i9⟩ := st_feed h (xs (i + 1))
  refine gk_aload_n (pc' := 321) cx dL_law_320 rfl rfl ?_
  refine gk_aload_n (pc' := 322) cx dL_law_321 rfl rfl ?_
  refine gk_iload_n (pc' := 323) cx dL_law_322 rfl rfl ?_
  refine gk_iconst (pc' := 324) cx 1 dL_law_323 rfl rfl ?_
  refine gk_iadd (pc' := 325) cx dL_law_324 rfl ?_
  refine gk_val (w := .int (nI (i + 1))) (congrArg Value.int (nI_add i 1)) ?_
  refine gk_sld (pc' := 326) cx hX hbl hbA hL (k := i + 1) (by omega) dL_law_325 rfl ?_
  refine gk_cVi (pc' := 329) cx (Nat.le_of_ble_eq_true rfl) (c_X5_feed l E s1 s2 (xs (i + 1))) mX5_feed lL_31 dL_law_326 kq0 (ltn rfl) (ltn rfl) rfl rfl rfl ⟨(Nat.le_of_ble_eq_true rfl), (Nat.le_of_ble_eq_true rfl)⟩ (Nat.le_of_ble_eq_true rfl) rfl ⟨(Nat.le_of_ble_eq_true rfl), (Nat.le_of_ble_eq_true rfl)⟩ ?_
  refine gk_aload_n (pc' := 330) cx dL_law_329 rfl rfl ?_
  refine gk_aload_n (pc' := 331) cx dL_law_330 rfl rfl ?_
  refine gk_iload_n (pc' := 332) cx dL_law_331 rfl rfl ?_
  refine gk_iconst (pc' := 333) cx 1 dL_law_332 rfl rfl ?_
  refine gk_iadd (pc' := 334) cx dL_law_333 rfl ?_
  refine gk_val (w := .int (nI (i + 1))) (congrArg Value.int (nI_add i 1)) ?_
  refine gk_sld (pc' := 335) cx hX hbl hbA hL (k := i + 1) (by omega) dL_law_334 rfl ?_
  refine gk_cVi (pc' := 338) cx (Nat.le_of_ble_eq_true rfl) (c_X6_feed l E s1 p1 (xs (i + 1))) mX6_feed lL_35 dL_law_335 kq88 (ltn rfl) (ltn rfl) rfl rfl rfl ⟨(Nat.le_of_ble_eq_true rfl), (Nat.le_of_ble_eq_true rfl)⟩ (Nat.le_of_ble_eq_true rfl) rfl ⟨(Nat.le_of_ble_eq_true rfl), (Nat.le_of_ble_eq_true rfl)⟩ ?_
  refine gk_icmp_eq (pc' := 341) cx 1119 dL_law_338 rfl rfl (fun _ => kk _ _ _ i9) (fun hh => absurd e9 hh)
set_option maxHeartbeats 2000000 in
set_option maxRecDepth 20000 in
theorem law_5F {p : Program} {l : Launch} {e : Env} {s : State} {m : MethodId} {below : List Frame} {meth : Method} {c : Code} {E : Ev} {rt0 : Option FieldType} {b L : Nat} {xs : Nat → Int32} (cx : Cx p s m #[Value.ref b] meth c E 115 cL_law 4 RL rt0) (hX : va_X b L xs s s.heap) (hbl : b < s.heap.size) (hbA : ¬ Ad E 115 b) (hL : L ≤ 3072) {i : Nat} (hi : i + 6 ≤ L) (kk : ∀ (g : IG) (o : Option Nat) (z : Int64), InvE g → GoK p l e room_1 s m #[Value.ref b] below meth c E 115 4 115 26025 (lw_Z below #[Value.ref b] s) g (RFo o) z 1119 [(3, .int (nI i)), (2, .ref (E.2.1 88)), (1, .ref (E.2.1 0)), (0, .ref b)] []) {g : IG} {o : Option Nat} {z : Int64} {hn vn ru tc : Nat} {CS : CSt} (h : Inv g g hn vn ru tc CS) (hx : tc = 6) : GoK p l e room_1 s m #[Value.ref b] below meth c E 115 4 115 26025 (lw_Z below #[Value.ref b] s) g (RFo o) z 343 [(3, .int (nI i)), (2, .ref (E.2.1 88)), (1, .ref (E.2.1 0)), (0, .ref b)] [] := by
  have e9 : (-4 : Int32) = -4 := rfl
  have i9 : InvE g := ⟨_, _, _, _, _, h⟩
  refine gk_aload_n (pc' := 344) cx dL_law_343 rfl rfl ?_
  refine gk_cVi (pc' := 347) cx (Nat.le_of_ble_eq_true rfl) (c_X5_textF l E h.xp hx) mX5_text lL_36 dL_law_344 kq0 (ltn rfl) (ltn rfl) rfl rfl rfl ⟨(Nat.le_of_ble_eq_true rfl), (Nat.le_of_ble_eq_true rfl)⟩ (Nat.le_of_ble_eq_true rfl) rfl ⟨(Nat.le_of_ble_eq_true rfl), (Nat.le_of_ble_eq_true rfl)⟩ ?_
  refine gk_aload_n (pc' := 348) cx dL_law_347 rfl rfl ?_
  refine gk_cVi (pc' := 351) cx (Nat.le_of_ble_eq_true rfl) (c_X6_textF l E (st_textF h hx)) mX6_text lL_40 dL_law_348 kq88 (ltn rfl) (ltn rfl) rfl rfl rfl ⟨(Nat.le_of_ble_eq_true rfl), (Nat.le_of_ble_eq_true rfl)⟩ (Nat.le_of_ble_eq_true rfl) rfl ⟨(Nat.le_of_ble_eq_true rfl), (Nat.le_of_ble_eq_true rfl)⟩ ?_
  refine gk_icmp_eq (pc' := 354) cx 1119 dL_law_351 rfl rfl (fun _ => kk _ _ _ i9) (fun hh => absurd e9 hh)
set_option maxHeartbeats 2000000 in
set_option maxRecDepth 20000 in
theorem law_5T {p : Program} {l : Launch} {e : Env} {s : State} {m : MethodId} {below : List Frame} {meth : Method} {c : Code} {E : Ev} {rt0 : Option FieldType} {b L : Nat} {xs : Nat → Int32} (cx : Cx p s m #[Value.ref b] meth c E 115 cL_law 4 RL rt0) (hX : va_X b L xs s s.heap) (hbl : b < s.heap.size) (hbA : ¬ Ad E 115 b) (hL : L ≤ 3072) {i : Nat} (hi : i + 6 ≤ L) (kk : ∀ (g : IG) (o : Option Nat) (z : Int64), InvE g → GoK p l e room_1 s m #[Value.ref b] below meth c E 115 4 115 26025 (lw_Z below #[Value.ref b] s) g (RFo o) z 1119 [(3, .int (nI i)), (2, .ref (E.2.1 88)), (1, .ref (E.2.1 0)), (0, .ref b)] []) {g : IG} {o : Option Nat} {z : Int64} {hn vn ru tc : Nat} {CS : CSt} (h : Inv g g hn vn ru tc CS) (hx : tc < 6) : GoK p l e room_1 s m #[Value.ref b] below meth c E 115 4 115 26025 (lw_Z below #[Value.ref b] s) g (RFo o) z 343 [(3, .int (nI i)), (2, .ref (E.2.1 88)), (1, .ref (E.2.1 0)), (0, .ref b)] [] := by
  obtain ⟨sz, q0, q1, q2, q3⟩ := h.2.2.2.1
  refine gk_aload_n (pc' := 344) cx dL_law_343 rfl rfl ?_
  refine gk_cVI (pc' := 347) cx (Nat.le_of_ble_eq_true rfl) (c_X5_text l E h.xp q0 q1 hx) mX5_text lL_36 dL_law_344 kq0 (ltn rfl) (ltn rfl) rfl rfl rfl ⟨(Nat.le_of_ble_eq_true rfl), (Nat.le_of_ble_eq_true rfl)⟩ (Nat.le_of_ble_eq_true rfl) rfl ⟨(Nat.le_of_ble_eq_true rfl), (Nat.le_of_ble_eq_true rfl)⟩ (fun x1 g1 h1 => ?_)
  obtain ⟨p1, k1⟩ := st_text h hx q0 q1 q2 q3 h1
  refine gk_aload_n (pc' := 348) cx dL_law_347 rfl rfl ?_
  refine gk_cVIz (pc' := 351) cx (Nat.le_of_ble_eq_true rfl) (c_X6_text l E (tc := tc) hx q0 p1.1 p1.2.1 p1.2.2) mX6_text lL_40 dL_law_348 kq88 (ltn rfl) (ltn rfl) rfl rfl rfl ⟨(Nat.le_of_ble_eq_true rfl), (Nat.le_of_ble_eq_true rfl)⟩ (Nat.le_of_ble_eq_true rfl) rfl ⟨(Nat.le_of_ble_eq_true rfl), (Nat.le_of_ble_eq_true rfl)⟩ (fun x2 g2 z2 h2 => ?_)
  obtain ⟨e9, i9⟩ := k1 _ _ h2
  refine gk_icmp_eq (pc' := 354) cx 1119 dL_law_351 rfl rfl (fun _ => kk _ _ _ i9) (fun hh => absurd e9 hh)
set_option maxHeartbeats 2000000 in
set_option maxRecDepth 20000 in
theorem law_6 {p : Program} {l : Launch} {e : Env} {s : State} {m : MethodId} {below : List Frame} {meth : Method} {c : Code} {E : Ev} {rt0 : Option FieldType} {b L : Nat} {xs : Nat → Int32} (cx : Cx p s m #[Value.ref b] meth c E 115 cL_law 4 RL rt0) (hX : va_X b L xs s s.heap) (hbl : b < s.heap.size) (hbA : ¬ Ad E 115 b) (hL : L ≤ 3072) {i : Nat} (hi : i + 6 ≤ L) (kk : ∀ (g : IG) (o : Option Nat) (z : Int64), InvE g → GoK p l e room_1 s m #[Value.ref b] below meth c E 115 4 115 26025 (lw_Z below #[Value.ref b] s) g (RFo o) z 1119 [(3, .int (nI i)), (2, .ref (E.2.1 88)), (1, .ref (E.2.1 0)), (0, .ref b)] []) {g : IG} {o : Option Nat} {z : Int64} {hn vn ru tc : Nat} {CS : CSt} (h : Inv g g hn vn ru tc CS)  : GoK p l e room_1 s m #[Value.ref b] below meth c E 115 4 115 26025 (lw_Z below #[Value.ref b] s) g (RFo o) z 356 [(3, .int (nI i)), (2, .ref (E.2.1 88)), (1, .ref (E.2.1 0)), (0, .ref b)] [] := by
  obtain ⟨p1, e9, i9⟩ := st_force h (xs (i + 1))
  refine gk_aload_n (pc' := 357) cx dL_law_356 rfl rfl ?_
  refine gk_aload_n (pc' := 358) cx dL_law_357 rfl rfl ?_
  refine gk_iload_n (pc' := 359) cx dL_law_358 rfl rfl ?_
  refine gk_iconst (pc' := 360) cx 1 dL_law_359 rfl rfl ?_
  refine gk_iadd (pc' := 361) cx dL_law_360 rfl ?_
  refine gk_val (w := .int (nI (i + 1))) (congrArg Value.int (nI_add i 1)) ?_
  refine gk_sld (pc' := 362) cx hX hbl hbA hL (k := i + 1) (by omega) dL_law_361 rfl ?_
  refine gk_cVi (pc' := 365) cx (Nat.le_of_ble_eq_true rfl) (c_X5_force l E (xs (i + 1))) mX5_force lL_41 dL_law_362 kq0 (ltn rfl) (ltn rfl) rfl rfl rfl ⟨(Nat.le_of_ble_eq_true rfl), (Nat.le_of_ble_eq_true rfl)⟩ (Nat.le_of_ble_eq_true rfl) rfl ⟨(Nat.le_of_ble_eq_true rfl), (Nat.le_of_ble_eq_true rfl)⟩ ?_
  refine gk_aload_n (pc' := 366) cx dL_law_365 rfl rfl ?_
  refine gk_aload_n (pc' := 367) cx dL_law_366 rfl rfl ?_
  refine gk_iload_n (pc' := 368) cx dL_law_367 rfl rfl ?_
  refine gk_iconst (pc' := 369) cx 1 dL_law_368 rfl rfl ?_
  refine gk_iadd (pc' := 370) cx dL_law_369 rfl ?_
  refine gk_val (w := .int (nI (i + 1))) (congrArg Value.int (nI_add i 1)) ?_
  refine gk_sld (pc' := 371) cx hX hbl hbA hL (k := i + 1) (by omega) dL_law_370 rfl ?_
  refine gk_cVi (pc' := 374) cx (Nat.le_of_ble_eq_true rfl) (c_X6_force l E (tc := tc) (by have := h.2.2.1.1.2; omega) p1 (xs (i + 1))) mX6_force lL_44 dL_law_371 kq88 (ltn rfl) (ltn rfl) rfl rfl rfl ⟨(Nat.le_of_ble_eq_true rfl), (Nat.le_of_ble_eq_true rfl)⟩ (Nat.le_of_ble_eq_true rfl) rfl ⟨(Nat.le_of_ble_eq_true rfl), (Nat.le_of_ble_eq_true rfl)⟩ ?_
  refine gk_icmp_eq (pc' := 377) cx 1119 dL_law_374 rfl rfl (fun _ => kk _ _ _ i9) (fun hh => absurd e9 hh)
set_option maxHeartbeats 2000000 in
set_option maxRecDepth 20000 in
theorem law_7 {p : Program} {l : Launch} {e : Env} {s : State} {m : MethodId} {below : List Frame} {meth : Method} {c : Code} {E : Ev} {rt0 : Option FieldType} {b L : Nat} {xs : Nat → Int32} (cx : Cx p s m #[Value.ref b] meth c E 115 cL_law 4 RL rt0) (hX : va_X b L xs s s.heap) (hbl : b < s.heap.size) (hbA : ¬ Ad E 115 b) (hL : L ≤ 3072) {i : Nat} (hi : i + 6 ≤ L) (kk : ∀ (g : IG) (o : Option Nat) (z : Int64), InvE g → GoK p l e room_1 s m #[Value.ref b] below meth c E 115 4 115 26025 (lw_Z below #[Value.ref b] s) g (RFo o) z 1119 [(3, .int (nI i)), (2, .ref (E.2.1 88)), (1, .ref (E.2.1 0)), (0, .ref b)] []) {g : IG} {o : Option Nat} {z : Int64} {hn vn ru tc : Nat} {CS : CSt} (h : Inv g g hn vn ru tc CS)  : GoK p l e room_1 s m #[Value.ref b] below meth c E 115 4 115 26025 (lw_Z below #[Value.ref b] s) g (RFo o) z 379 [(3, .int (nI i)), (2, .ref (E.2.1 88)), (1, .ref (E.2.1 0)), (0, .ref b)] [] := by
  refine gk_aload_n (pc' := 380) cx dL_law_379 rfl rfl ?_
  refine gk_aload_n (pc' := 381) cx dL_law_380 rfl rfl ?_
  refine gk_iload_n (pc' := 382) cx dL_law_381 rfl rfl ?_
  refine gk_iconst (pc' := 383) cx 1 dL_law_382 rfl rfl ?_
  refine gk_iadd (pc' := 384) cx dL_law_383 rfl ?_
  refine gk_val (w := .int (nI (i + 1))) (congrArg Value.int (nI_add i 1)) ?_
  refine gk_sld (pc' := 385) cx hX hbl hbA hL (k := i + 1) (by omega) dL_law_384 rfl ?_
  refine gk_aload_n (pc' := 386) cx dL_law_385 rfl rfl ?_
  refine gk_iload_n (pc' := 387) cx dL_law_386 rfl rfl ?_
  refine gk_iconst (pc' := 388) cx 2 dL_law_387 rfl rfl ?_
  refine gk_iadd (pc' := 389) cx dL_law_388 rfl ?_
  refine gk_val (w := .int (nI (i + 2))) (congrArg Value.int (nI_add i 2)) ?_
  refine gk_sld (pc' := 390) cx hX hbl hbA hL (k := i + 2) (by omega) dL_law_389 rfl ?_
  refine gk_cVI (pc' := 393) cx (Nat.le_of_ble_eq_true rfl) (c_X5_once l E h.xp (xs (i + 1)) (xs (i + 2))) mX5_once lL_45 dL_law_390 kq0 (ltn rfl) (ltn rfl) rfl rfl rfl ⟨(Nat.le_of_ble_eq_true rfl), (Nat.le_of_ble_eq_true rfl)⟩ (Nat.le_of_ble_eq_true rfl) rfl ⟨(Nat.le_of_ble_eq_true rfl), (Nat.le_of_ble_eq_true rfl)⟩ (fun x1 g1 h1 => ?_)
  obtain ⟨p1, k1⟩ := st_once h (xs (i + 1)) (xs (i + 2)) h1
  refine gk_aload_n (pc' := 394) cx dL_law_393 rfl rfl ?_
  refine gk_aload_n (pc' := 395) cx dL_law_394 rfl rfl ?_
  refine gk_iload_n (pc' := 396) cx dL_law_395 rfl rfl ?_
  refine gk_iconst (pc' := 397) cx 1 dL_law_396 rfl rfl ?_
  refine gk_iadd (pc' := 398) cx dL_law_397 rfl ?_
  refine gk_val (w := .int (nI (i + 1))) (congrArg Value.int (nI_add i 1)) ?_
  refine gk_sld (pc' := 399) cx hX hbl hbA hL (k := i + 1) (by omega) dL_law_398 rfl ?_
  refine gk_aload_n (pc' := 400) cx dL_law_399 rfl rfl ?_
  refine gk_iload_n (pc' := 401) cx dL_law_400 rfl rfl ?_
  refine gk_iconst (pc' := 402) cx 2 dL_law_401 rfl rfl ?_
  refine gk_iadd (pc' := 403) cx dL_law_402 rfl ?_
  refine gk_val (w := .int (nI (i + 2))) (congrArg Value.int (nI_add i 2)) ?_
  refine gk_sld (pc' := 404) cx hX hbl hbA hL (k := i + 2) (by omega) dL_law_403 rfl ?_
  refine gk_cVIz (pc' := 407) cx (Nat.le_of_ble_eq_true rfl) (c_X6_once l E p1 (xs (i + 1)) (xs (i + 2))) mX6_once lL_48 dL_law_404 kq88 (ltn rfl) (ltn rfl) rfl rfl rfl ⟨(Nat.le_of_ble_eq_true rfl), (Nat.le_of_ble_eq_true rfl)⟩ (Nat.le_of_ble_eq_true rfl) rfl ⟨(Nat.le_of_ble_eq_true rfl), (Nat.le_of_ble_eq_true rfl)⟩ (fun x2 g2 z2 h2 => ?_)
  obtain ⟨e9, i9⟩ := k1 _ _ h2
  refine gk_icmp_eq (pc' := 410) cx 1119 dL_law_407 rfl rfl (fun _ => kk _ _ _ i9) (fun hh => absurd e9 hh)
set_option maxHeartbeats 2000000 in
set_option maxRecDepth 20000 in
theorem law_8 {p : Program} {l : Launch} {e : Env} {s : State} {m : MethodId} {below : List Frame} {meth : Method} {c : Code} {E : Ev} {rt0 : Option FieldType} {b L : Nat} {xs : Nat → Int32} (cx : Cx p s m #[Value.ref b] meth c E 115 cL_law 4 RL rt0) (hX : va_X b L xs s s.heap) (hbl : b < s.heap.size) (hbA : ¬ Ad E 115 b) (hL : L ≤ 3072) {i : Nat} (hi : i + 6 ≤ L) (kk : ∀ (g : IG) (o : Option Nat) (z : Int64), InvE g → GoK p l e room_1 s m #[Value.ref b] below meth c E 115 4 115 26025 (lw_Z below #[Value.ref b] s) g (RFo o) z 1119 [(3, .int (nI i)), (2, .ref (E.2.1 88)), (1, .ref (E.2.1 0)), (0, .ref b)] []) {g : IG} {o : Option Nat} {z : Int64} {hn vn ru tc : Nat} {CS : CSt} (h : Inv g g hn vn ru tc CS)  : GoK p l e room_1 s m #[Value.ref b] below meth c E 115 4 115 26025 (lw_Z below #[Value.ref b] s) g (RFo o) z 412 [(3, .int (nI i)), (2, .ref (E.2.1 88)), (1, .ref (E.2.1 0)), (0, .ref b)] [] := by
  refine gk_aload_n (pc' := 413) cx dL_law_412 rfl rfl ?_
  refine gk_aload_n (pc' := 414) cx dL_law_413 rfl rfl ?_
  refine gk_iload_n (pc' := 415) cx dL_law_414 rfl rfl ?_
  refine gk_iconst (pc' := 416) cx 1 dL_law_415 rfl rfl ?_
  refine gk_iadd (pc' := 417) cx dL_law_416 rfl ?_
  refine gk_val (w := .int (nI (i + 1))) (congrArg Value.int (nI_add i 1)) ?_
  refine gk_sld (pc' := 418) cx hX hbl hbA hL (k := i + 1) (by omega) dL_law_417 rfl ?_
  refine gk_cVI (pc' := 421) cx (Nat.le_of_ble_eq_true rfl) (c_X5_go l E h.xp (xs (i + 1))) mX5_go lL_49 dL_law_418 kq0 (ltn rfl) (ltn rfl) rfl rfl rfl ⟨(Nat.le_of_ble_eq_true rfl), (Nat.le_of_ble_eq_true rfl)⟩ (Nat.le_of_ble_eq_true rfl) rfl ⟨(Nat.le_of_ble_eq_true rfl), (Nat.le_of_ble_eq_true rfl)⟩ (fun x1 g1 h1 => ?_)
  obtain ⟨p1, k1⟩ := st_go h (xs (i + 1)) h1
  refine gk_aload_n (pc' := 422) cx dL_law_421 rfl rfl ?_
  refine gk_aload_n (pc' := 423) cx dL_law_422 rfl rfl ?_
  refine gk_iload_n (pc' := 424) cx dL_law_423 rfl rfl ?_
  refine gk_iconst (pc' := 425) cx 1 dL_law_424 rfl rfl ?_
  refine gk_iadd (pc' := 426) cx dL_law_425 rfl ?_
  refine gk_val (w := .int (nI (i + 1))) (congrArg Value.int (nI_add i 1)) ?_
  refine gk_sld (pc' := 427) cx hX hbl hbA hL (k := i + 1) (by omega) dL_law_426 rfl ?_
  refine gk_cVIz (pc' := 430) cx (Nat.le_of_ble_eq_true rfl) (c_X6_go l E p1 (xs (i + 1))) mX6_go lL_52 dL_law_427 kq88 (ltn rfl) (ltn rfl) rfl rfl rfl ⟨(Nat.le_of_ble_eq_true rfl), (Nat.le_of_ble_eq_true rfl)⟩ (Nat.le_of_ble_eq_true rfl) rfl ⟨(Nat.le_of_ble_eq_true rfl), (Nat.le_of_ble_eq_true rfl)⟩ (fun x2 g2 z2 h2 => ?_)
  obtain ⟨e9, i9⟩ := k1 _ _ h2
  refine gk_icmp_eq (pc' := 433) cx 1119 dL_law_430 rfl rfl (fun _ => kk _ _ _ i9) (fun hh => absurd e9 hh)
set_option maxHeartbeats 2000000 in
set_option maxRecDepth 20000 in
theorem law_9 {p : Program} {l : Launch} {e : Env} {s : State} {m : MethodId} {below : List Frame} {meth : Method} {c : Code} {E : Ev} {rt0 : Option FieldType} {b L : Nat} {xs : Nat → Int32} (cx : Cx p s m #[Value.ref b] meth c E 115 cL_law 4 RL rt0) (hX : va_X b L xs s s.heap) (hbl : b < s.heap.size) (hbA : ¬ Ad E 115 b) (hL : L ≤ 3072) {i : Nat} (hi : i + 6 ≤ L) (kk : ∀ (g : IG) (o : Option Nat) (z : Int64), InvE g → GoK p l e room_1 s m #[Value.ref b] below meth c E 115 4 115 26025 (lw_Z below #[Value.ref b] s) g (RFo o) z 1119 [(3, .int (nI i)), (2, .ref (E.2.1 88)), (1, .ref (E.2.1 0)), (0, .ref b)] []) {g : IG} {o : Option Nat} {z : Int64} {hn vn ru tc : Nat} {CS : CSt} (h : Inv g g hn vn ru tc CS)  : GoK p l e room_1 s m #[Value.ref b] below meth c E 115 4 115 26025 (lw_Z below #[Value.ref b] s) g (RFo o) z 435 [(3, .int (nI i)), (2, .ref (E.2.1 88)), (1, .ref (E.2.1 0)), (0, .ref b)] [] := by
  refine gk_aload_n (pc' := 436) cx dL_law_435 rfl rfl ?_
  refine gk_aload_n (pc' := 437) cx dL_law_436 rfl rfl ?_
  refine gk_iload_n (pc' := 438) cx dL_law_437 rfl rfl ?_
  refine gk_iconst (pc' := 439) cx 1 dL_law_438 rfl rfl ?_
  refine gk_iadd (pc' := 440) cx dL_law_439 rfl ?_
  refine gk_val (w := .int (nI (i + 1))) (congrArg Value.int (nI_add i 1)) ?_
  refine gk_sld (pc' := 441) cx hX hbl hbA hL (k := i + 1) (by omega) dL_law_440 rfl ?_
  refine gk_aload_n (pc' := 442) cx dL_law_441 rfl rfl ?_
  refine gk_iload_n (pc' := 443) cx dL_law_442 rfl rfl ?_
  refine gk_iconst (pc' := 444) cx 2 dL_law_443 rfl rfl ?_
  refine gk_iadd (pc' := 445) cx dL_law_444 rfl ?_
  refine gk_val (w := .int (nI (i + 2))) (congrArg Value.int (nI_add i 2)) ?_
  refine gk_sld (pc' := 446) cx hX hbl hbA hL (k := i + 2) (by omega) dL_law_445 rfl ?_
  refine gk_cVI (pc' := 449) cx (Nat.le_of_ble_eq_true rfl) (c_X5_course l E h.xp (xs (i + 1)) (xs (i + 2))) mX5_course lL_53 dL_law_446 kq0 (ltn rfl) (ltn rfl) rfl rfl rfl ⟨(Nat.le_of_ble_eq_true rfl), (Nat.le_of_ble_eq_true rfl)⟩ (Nat.le_of_ble_eq_true rfl) rfl ⟨(Nat.le_of_ble_eq_true rfl), (Nat.le_of_ble_eq_true rfl)⟩ (fun x1 g1 h1 => ?_)
  obtain ⟨p1, k1⟩ := st_course h (xs (i + 1)) (xs (i + 2)) h1
  refine gk_aload_n (pc' := 450) cx dL_law_449 rfl rfl ?_
  refine gk_aload_n (pc' := 451) cx dL_law_450 rfl rfl ?_
  refine gk_iload_n (pc' := 452) cx dL_law_451 rfl rfl ?_
  refine gk_iconst (pc' := 453) cx 1 dL_law_452 rfl rfl ?_
  refine gk_iadd (pc' := 454) cx dL_law_453 rfl ?_
  refine gk_val (w := .int (nI (i + 1))) (congrArg Value.int (nI_add i 1)) ?_
  refine gk_sld (pc' := 455) cx hX hbl hbA hL (k := i + 1) (by omega) dL_law_454 rfl ?_
  refine gk_aload_n (pc' := 456) cx dL_law_455 rfl rfl ?_
  refine gk_iload_n (pc' := 457) cx dL_law_456 rfl rfl ?_
  refine gk_iconst (pc' := 458) cx 2 dL_law_457 rfl rfl ?_
  refine gk_iadd (pc' := 459) cx dL_law_458 rfl ?_
  refine gk_val (w := .int (nI (i + 2))) (congrArg Value.int (nI_add i 2)) ?_
  refine gk_sld (pc' := 460) cx hX hbl hbA hL (k := i + 2) (by omega) dL_law_459 rfl ?_
  refine gk_cVIz (pc' := 463) cx (Nat.le_of_ble_eq_true rfl) (c_X6_course l E p1 (xs (i + 1)) (xs (i + 2))) mX6_course lL_56 dL_law_460 kq88 (ltn rfl) (ltn rfl) rfl rfl rfl ⟨(Nat.le_of_ble_eq_true rfl), (Nat.le_of_ble_eq_true rfl)⟩ (Nat.le_of_ble_eq_true rfl) rfl ⟨(Nat.le_of_ble_eq_true rfl), (Nat.le_of_ble_eq_true rfl)⟩ (fun x2 g2 z2 h2 => ?_)
  obtain ⟨e9, i9⟩ := k1 _ _ h2
  refine gk_icmp_eq (pc' := 466) cx 1119 dL_law_463 rfl rfl (fun _ => kk _ _ _ i9) (fun hh => absurd e9 hh)
set_option maxHeartbeats 2000000 in
set_option maxRecDepth 20000 in
theorem law_10 {p : Program} {l : Launch} {e : Env} {s : State} {m : MethodId} {below : List Frame} {meth : Method} {c : Code} {E : Ev} {rt0 : Option FieldType} {b L : Nat} {xs : Nat → Int32} (cx : Cx p s m #[Value.ref b] meth c E 115 cL_law 4 RL rt0) (hX : va_X b L xs s s.heap) (hbl : b < s.heap.size) (hbA : ¬ Ad E 115 b) (hL : L ≤ 3072) {i : Nat} (hi : i + 6 ≤ L) (kk : ∀ (g : IG) (o : Option Nat) (z : Int64), InvE g → GoK p l e room_1 s m #[Value.ref b] below meth c E 115 4 115 26025 (lw_Z below #[Value.ref b] s) g (RFo o) z 1119 [(3, .int (nI i)), (2, .ref (E.2.1 88)), (1, .ref (E.2.1 0)), (0, .ref b)] []) {g : IG} {o : Option Nat} {z : Int64} {hn vn ru tc : Nat} {CS : CSt} (h : Inv g g hn vn ru tc CS)  : GoK p l e room_1 s m #[Value.ref b] below meth c E 115 4 115 26025 (lw_Z below #[Value.ref b] s) g (RFo o) z 468 [(3, .int (nI i)), (2, .ref (E.2.1 88)), (1, .ref (E.2.1 0)), (0, .ref b)] [] := by
  refine gk_aload_n (pc' := 469) cx dL_law_468 rfl rfl ?_
  refine gk_aload_n (pc' := 470) cx dL_law_469 rfl rfl ?_
  refine gk_iload_n (pc' := 471) cx dL_law_470 rfl rfl ?_
  refine gk_iconst (pc' := 472) cx 1 dL_law_471 rfl rfl ?_
  refine gk_iadd (pc' := 473) cx dL_law_472 rfl ?_
  refine gk_val (w := .int (nI (i + 1))) (congrArg Value.int (nI_add i 1)) ?_
  refine gk_sld (pc' := 474) cx hX hbl hbA hL (k := i + 1) (by omega) dL_law_473 rfl ?_
  refine gk_cVI (pc' := 477) cx (Nat.le_of_ble_eq_true rfl) (c_X5_bad l E h.xp (xs (i + 1))) mX5_bad lL_57 dL_law_474 kq0 (ltn rfl) (ltn rfl) rfl rfl rfl ⟨(Nat.le_of_ble_eq_true rfl), (Nat.le_of_ble_eq_true rfl)⟩ (Nat.le_of_ble_eq_true rfl) rfl ⟨(Nat.le_of_ble_eq_true rfl), (Nat.le_of_ble_eq_true rfl)⟩ (fun x1 g1 h1 => ?_)
  obtain ⟨p1, k1⟩ := st_bad h (xs (i + 1)) h1
  refine gk_aload_n (pc' := 478) cx dL_law_477 rfl rfl ?_
  refine gk_aload_n (pc' := 479) cx dL_law_478 rfl rfl ?_
  refine gk_iload_n (pc' := 480) cx dL_law_479 rfl rfl ?_
  refine gk_iconst (pc' := 481) cx 1 dL_law_480 rfl rfl ?_
  refine gk_iadd (pc' := 482) cx dL_law_481 rfl ?_
  refine gk_val (w := .int (nI (i + 1))) (congrArg Value.int (nI_add i 1)) ?_
  refine gk_sld (pc' := 483) cx hX hbl hbA hL (k := i + 1) (by omega) dL_law_482 rfl ?_
  refine gk_cVIz (pc' := 486) cx (Nat.le_of_ble_eq_true rfl) (c_X6_bad l E p1 (xs (i + 1))) mX6_bad lL_60 dL_law_483 kq88 (ltn rfl) (ltn rfl) rfl rfl rfl ⟨(Nat.le_of_ble_eq_true rfl), (Nat.le_of_ble_eq_true rfl)⟩ (Nat.le_of_ble_eq_true rfl) rfl ⟨(Nat.le_of_ble_eq_true rfl), (Nat.le_of_ble_eq_true rfl)⟩ (fun x2 g2 z2 h2 => ?_)
  obtain ⟨e9, i9⟩ := k1 _ _ h2
  refine gk_icmp_eq (pc' := 489) cx 1119 dL_law_486 rfl rfl (fun _ => kk _ _ _ i9) (fun hh => absurd e9 hh)
set_option maxHeartbeats 2000000 in
set_option maxRecDepth 20000 in
theorem law_11 {p : Program} {l : Launch} {e : Env} {s : State} {m : MethodId} {below : List Frame} {meth : Method} {c : Code} {E : Ev} {rt0 : Option FieldType} {b L : Nat} {xs : Nat → Int32} (cx : Cx p s m #[Value.ref b] meth c E 115 cL_law 4 RL rt0) (hX : va_X b L xs s s.heap) (hbl : b < s.heap.size) (hbA : ¬ Ad E 115 b) (hL : L ≤ 3072) {i : Nat} (hi : i + 6 ≤ L) (kk : ∀ (g : IG) (o : Option Nat) (z : Int64), InvE g → GoK p l e room_1 s m #[Value.ref b] below meth c E 115 4 115 26025 (lw_Z below #[Value.ref b] s) g (RFo o) z 1119 [(3, .int (nI i)), (2, .ref (E.2.1 88)), (1, .ref (E.2.1 0)), (0, .ref b)] []) {g : IG} {o : Option Nat} {z : Int64} {hn vn ru tc : Nat} {CS : CSt} (h : Inv g g hn vn ru tc CS)  : GoK p l e room_1 s m #[Value.ref b] below meth c E 115 4 115 26025 (lw_Z below #[Value.ref b] s) g (RFo o) z 491 [(3, .int (nI i)), (2, .ref (E.2.1 88)), (1, .ref (E.2.1 0)), (0, .ref b)] [] := by
  refine gk_aload_n (pc' := 492) cx dL_law_491 rfl rfl ?_
  refine gk_aload_n (pc' := 493) cx dL_law_492 rfl rfl ?_
  refine gk_iload_n (pc' := 494) cx dL_law_493 rfl rfl ?_
  refine gk_iconst (pc' := 495) cx 1 dL_law_494 rfl rfl ?_
  refine gk_iadd (pc' := 496) cx dL_law_495 rfl ?_
  refine gk_val (w := .int (nI (i + 1))) (congrArg Value.int (nI_add i 1)) ?_
  refine gk_sld (pc' := 497) cx hX hbl hbA hL (k := i + 1) (by omega) dL_law_496 rfl ?_
  refine gk_cVI (pc' := 500) cx (Nat.le_of_ble_eq_true rfl) (c_X5_drift l E h.xp (xs (i + 1))) mX5_drift lL_61 dL_law_497 kq0 (ltn rfl) (ltn rfl) rfl rfl rfl ⟨(Nat.le_of_ble_eq_true rfl), (Nat.le_of_ble_eq_true rfl)⟩ (Nat.le_of_ble_eq_true rfl) rfl ⟨(Nat.le_of_ble_eq_true rfl), (Nat.le_of_ble_eq_true rfl)⟩ (fun x1 g1 h1 => ?_)
  obtain ⟨p1, k1⟩ := st_drift h (xs (i + 1)) h1
  refine gk_aload_n (pc' := 501) cx dL_law_500 rfl rfl ?_
  refine gk_aload_n (pc' := 502) cx dL_law_501 rfl rfl ?_
  refine gk_iload_n (pc' := 503) cx dL_law_502 rfl rfl ?_
  refine gk_iconst (pc' := 504) cx 1 dL_law_503 rfl rfl ?_
  refine gk_iadd (pc' := 505) cx dL_law_504 rfl ?_
  refine gk_val (w := .int (nI (i + 1))) (congrArg Value.int (nI_add i 1)) ?_
  refine gk_sld (pc' := 506) cx hX hbl hbA hL (k := i + 1) (by omega) dL_law_505 rfl ?_
  refine gk_cVIz (pc' := 509) cx (Nat.le_of_ble_eq_true rfl) (c_X6_drift l E p1 (xs (i + 1))) mX6_drift lL_64 dL_law_506 kq88 (ltn rfl) (ltn rfl) rfl rfl rfl ⟨(Nat.le_of_ble_eq_true rfl), (Nat.le_of_ble_eq_true rfl)⟩ (Nat.le_of_ble_eq_true rfl) rfl ⟨(Nat.le_of_ble_eq_true rfl), (Nat.le_of_ble_eq_true rfl)⟩ (fun x2 g2 z2 h2 => ?_)
  obtain ⟨e9, i9⟩ := k1 _ _ h2
  refine gk_icmp_eq (pc' := 512) cx 1119 dL_law_509 rfl rfl (fun _ => kk _ _ _ i9) (fun hh => absurd e9 hh)
set_option maxHeartbeats 2000000 in
set_option maxRecDepth 20000 in
theorem law_12 {p : Program} {l : Launch} {e : Env} {s : State} {m : MethodId} {below : List Frame} {meth : Method} {c : Code} {E : Ev} {rt0 : Option FieldType} {b L : Nat} {xs : Nat → Int32} (cx : Cx p s m #[Value.ref b] meth c E 115 cL_law 4 RL rt0) (hX : va_X b L xs s s.heap) (hbl : b < s.heap.size) (hbA : ¬ Ad E 115 b) (hL : L ≤ 3072) {i : Nat} (hi : i + 6 ≤ L) (kk : ∀ (g : IG) (o : Option Nat) (z : Int64), InvE g → GoK p l e room_1 s m #[Value.ref b] below meth c E 115 4 115 26025 (lw_Z below #[Value.ref b] s) g (RFo o) z 1119 [(3, .int (nI i)), (2, .ref (E.2.1 88)), (1, .ref (E.2.1 0)), (0, .ref b)] []) {g : IG} {o : Option Nat} {z : Int64} {hn vn ru tc : Nat} {CS : CSt} (h : Inv g g hn vn ru tc CS)  : GoK p l e room_1 s m #[Value.ref b] below meth c E 115 4 115 26025 (lw_Z below #[Value.ref b] s) g (RFo o) z 514 [(3, .int (nI i)), (2, .ref (E.2.1 88)), (1, .ref (E.2.1 0)), (0, .ref b)] [] := by
  refine gk_aload_n (pc' := 515) cx dL_law_514 rfl rfl ?_
  refine gk_aload_n (pc' := 516) cx dL_law_515 rfl rfl ?_
  refine gk_iload_n (pc' := 517) cx dL_law_516 rfl rfl ?_
  refine gk_iconst (pc' := 518) cx 1 dL_law_517 rfl rfl ?_
  refine gk_iadd (pc' := 519) cx dL_law_518 rfl ?_
  refine gk_val (w := .int (nI (i + 1))) (congrArg Value.int (nI_add i 1)) ?_
  refine gk_sld (pc' := 520) cx hX hbl hbA hL (k := i + 1) (by omega) dL_law_519 rfl ?_
  refine gk_aload_n (pc' := 521) cx dL_law_520 rfl rfl ?_
  refine gk_iload_n (pc' := 522) cx dL_law_521 rfl rfl ?_
  refine gk_iconst (pc' := 523) cx 2 dL_law_522 rfl rfl ?_
  refine gk_iadd (pc' := 524) cx dL_law_523 rfl ?_
  refine gk_val (w := .int (nI (i + 2))) (congrArg Value.int (nI_add i 2)) ?_
  refine gk_sld (pc' := 525) cx hX hbl hbA hL (k := i + 2) (by omega) dL_law_524 rfl ?_
  refine gk_cVI (pc' := 528) cx (Nat.le_of_ble_eq_true rfl) (c_X5_say l E h.xp (xs (i + 1)) (xs (i + 2))) mX5_say lL_65 dL_law_525 kq0 (ltn rfl) (ltn rfl) rfl rfl rfl ⟨(Nat.le_of_ble_eq_true rfl), (Nat.le_of_ble_eq_true rfl)⟩ (Nat.le_of_ble_eq_true rfl) rfl ⟨(Nat.le_of_ble_eq_true rfl), (Nat.le_of_ble_eq_true rfl)⟩ (fun x1 g1 h1 => ?_)
  obtain ⟨p1, k1⟩ := st_say h (xs (i + 1)) (xs (i + 2)) h1
  refine gk_aload_n (pc' := 529) cx dL_law_528 rfl rfl ?_
  refine gk_aload_n (pc' := 530) cx dL_law_529 rfl rfl ?_
  refine gk_iload_n (pc' := 531) cx dL_law_530 rfl rfl ?_
  refine gk_iconst (pc' := 532) cx 1 dL_law_531 rfl rfl ?_
  refine gk_iadd (pc' := 533) cx dL_law_532 rfl ?_
  refine gk_val (w := .int (nI (i + 1))) (congrArg Value.int (nI_add i 1)) ?_
  refine gk_sld (pc' := 534) cx hX hbl hbA hL (k := i + 1) (by omega) dL_law_533 rfl ?_
  refine gk_aload_n (pc' := 535) cx dL_law_534 rfl rfl ?_
  refine gk_iload_n (pc' := 536) cx dL_law_535 rfl rfl ?_
  refine gk_iconst (pc' := 537) cx 2 dL_law_536 rfl rfl ?_
  refine gk_iadd (pc' := 538) cx dL_law_537 rfl ?_
  refine gk_val (w := .int (nI (i + 2))) (congrArg Value.int (nI_add i 2)) ?_
  refine gk_sld (pc' := 539) cx hX hbl hbA hL (k := i + 2) (by omega) dL_law_538 rfl ?_
  refine gk_cVIz (pc' := 542) cx (Nat.le_of_ble_eq_true rfl) (c_X6_say l E p1 (xs (i + 1)) (xs (i + 2))) mX6_say lL_68 dL_law_539 kq88 (ltn rfl) (ltn rfl) rfl rfl rfl ⟨(Nat.le_of_ble_eq_true rfl), (Nat.le_of_ble_eq_true rfl)⟩ (Nat.le_of_ble_eq_true rfl) rfl ⟨(Nat.le_of_ble_eq_true rfl), (Nat.le_of_ble_eq_true rfl)⟩ (fun x2 g2 z2 h2 => ?_)
  obtain ⟨e9, i9⟩ := k1 _ _ h2
  refine gk_icmp_eq (pc' := 545) cx 1119 dL_law_542 rfl rfl (fun _ => kk _ _ _ i9) (fun hh => absurd e9 hh)
set_option maxHeartbeats 2000000 in
set_option maxRecDepth 20000 in
theorem law_13 {p : Program} {l : Launch} {e : Env} {s : State} {m : MethodId} {below : List Frame} {meth : Method} {c : Code} {E : Ev} {rt0 : Option FieldType} {b L : Nat} {xs : Nat → Int32} (cx : Cx p s m #[Value.ref b] meth c E 115 cL_law 4 RL rt0) (hX : va_X b L xs s s.heap) (hbl : b < s.heap.size) (hbA : ¬ Ad E 115 b) (hL : L ≤ 3072) {i : Nat} (hi : i + 6 ≤ L) (kk : ∀ (g : IG) (o : Option Nat) (z : Int64), InvE g → GoK p l e room_1 s m #[Value.ref b] below meth c E 115 4 115 26025 (lw_Z below #[Value.ref b] s) g (RFo o) z 1119 [(3, .int (nI i)), (2, .ref (E.2.1 88)), (1, .ref (E.2.1 0)), (0, .ref b)] []) {g : IG} {o : Option Nat} {z : Int64} {hn vn ru tc : Nat} {CS : CSt} (h : Inv g g hn vn ru tc CS)  : GoK p l e room_1 s m #[Value.ref b] below meth c E 115 4 115 26025 (lw_Z below #[Value.ref b] s) g (RFo o) z 547 [(3, .int (nI i)), (2, .ref (E.2.1 88)), (1, .ref (E.2.1 0)), (0, .ref b)] [] := by
  refine gk_aload_n (pc' := 548) cx dL_law_547 rfl rfl ?_
  refine gk_aload_n (pc' := 549) cx dL_law_548 rfl rfl ?_
  refine gk_iload_n (pc' := 550) cx dL_law_549 rfl rfl ?_
  refine gk_iconst (pc' := 551) cx 1 dL_law_550 rfl rfl ?_
  refine gk_iadd (pc' := 552) cx dL_law_551 rfl ?_
  refine gk_val (w := .int (nI (i + 1))) (congrArg Value.int (nI_add i 1)) ?_
  refine gk_sld (pc' := 553) cx hX hbl hbA hL (k := i + 1) (by omega) dL_law_552 rfl ?_
  refine gk_cVI (pc' := 556) cx (Nat.le_of_ble_eq_true rfl) (c_X5_whom l E h.xp (xs (i + 1))) mX5_whom lL_69 dL_law_553 kq0 (ltn rfl) (ltn rfl) rfl rfl rfl ⟨(Nat.le_of_ble_eq_true rfl), (Nat.le_of_ble_eq_true rfl)⟩ (Nat.le_of_ble_eq_true rfl) rfl ⟨(Nat.le_of_ble_eq_true rfl), (Nat.le_of_ble_eq_true rfl)⟩ (fun x1 g1 h1 => ?_)
  obtain ⟨p1, k1⟩ := st_whom h (xs (i + 1)) h1
  refine gk_aload_n (pc' := 557) cx dL_law_556 rfl rfl ?_
  refine gk_aload_n (pc' := 558) cx dL_law_557 rfl rfl ?_
  refine gk_iload_n (pc' := 559) cx dL_law_558 rfl rfl ?_
  refine gk_iconst (pc' := 560) cx 1 dL_law_559 rfl rfl ?_
  refine gk_iadd (pc' := 561) cx dL_law_560 rfl ?_
  refine gk_val (w := .int (nI (i + 1))) (congrArg Value.int (nI_add i 1)) ?_
  refine gk_sld (pc' := 562) cx hX hbl hbA hL (k := i + 1) (by omega) dL_law_561 rfl ?_
  refine gk_cVIz (pc' := 565) cx (Nat.le_of_ble_eq_true rfl) (c_X6_whom l E p1 (xs (i + 1))) mX6_whom lL_72 dL_law_562 kq88 (ltn rfl) (ltn rfl) rfl rfl rfl ⟨(Nat.le_of_ble_eq_true rfl), (Nat.le_of_ble_eq_true rfl)⟩ (Nat.le_of_ble_eq_true rfl) rfl ⟨(Nat.le_of_ble_eq_true rfl), (Nat.le_of_ble_eq_true rfl)⟩ (fun x2 g2 z2 h2 => ?_)
  obtain ⟨e9, i9⟩ := k1 _ _ h2
  refine gk_icmp_eq (pc' := 568) cx 1119 dL_law_565 rfl rfl (fun _ => kk _ _ _ i9) (fun hh => absurd e9 hh)
set_option maxHeartbeats 2000000 in
set_option maxRecDepth 20000 in
theorem law_14 {p : Program} {l : Launch} {e : Env} {s : State} {m : MethodId} {below : List Frame} {meth : Method} {c : Code} {E : Ev} {rt0 : Option FieldType} {b L : Nat} {xs : Nat → Int32} (cx : Cx p s m #[Value.ref b] meth c E 115 cL_law 4 RL rt0) (hX : va_X b L xs s s.heap) (hbl : b < s.heap.size) (hbA : ¬ Ad E 115 b) (hL : L ≤ 3072) {i : Nat} (hi : i + 6 ≤ L) (kk : ∀ (g : IG) (o : Option Nat) (z : Int64), InvE g → GoK p l e room_1 s m #[Value.ref b] below meth c E 115 4 115 26025 (lw_Z below #[Value.ref b] s) g (RFo o) z 1119 [(3, .int (nI i)), (2, .ref (E.2.1 88)), (1, .ref (E.2.1 0)), (0, .ref b)] []) {g : IG} {o : Option Nat} {z : Int64} {hn vn ru tc : Nat} {CS : CSt} (h : Inv g g hn vn ru tc CS)  : GoK p l e room_1 s m #[Value.ref b] below meth c E 115 4 115 26025 (lw_Z below #[Value.ref b] s) g (RFo o) z 570 [(3, .int (nI i)), (2, .ref (E.2.1 88)), (1, .ref (E.2.1 0)), (0, .ref b)] [] := by
  refine gk_aload_n (pc' := 571) cx dL_law_570 rfl rfl ?_
  refine gk_aload_n (pc' := 572) cx dL_law_571 rfl rfl ?_
  refine gk_iload_n (pc' := 573) cx dL_law_572 rfl rfl ?_
  refine gk_iconst (pc' := 574) cx 1 dL_law_573 rfl rfl ?_
  refine gk_iadd (pc' := 575) cx dL_law_574 rfl ?_
  refine gk_val (w := .int (nI (i + 1))) (congrArg Value.int (nI_add i 1)) ?_
  refine gk_sld (pc' := 576) cx hX hbl hbA hL (k := i + 1) (by omega) dL_law_575 rfl ?_
  refine gk_aload_n (pc' := 577) cx dL_law_576 rfl rfl ?_
  refine gk_iload_n (pc' := 578) cx dL_law_577 rfl rfl ?_
  refine gk_iconst (pc' := 579) cx 2 dL_law_578 rfl rfl ?_
  refine gk_iadd (pc' := 580) cx dL_law_579 rfl ?_
  refine gk_val (w := .int (nI (i + 2))) (congrArg Value.int (nI_add i 2)) ?_
  refine gk_sld (pc' := 581) cx hX hbl hbA hL (k := i + 2) (by omega) dL_law_580 rfl ?_
  refine gk_cVI (pc' := 584) cx (Nat.le_of_ble_eq_true rfl) (c_X5_when l E h.xp (xs (i + 1)) (xs (i + 2))) mX5_when lL_73 dL_law_581 kq0 (ltn rfl) (ltn rfl) rfl rfl rfl ⟨(Nat.le_of_ble_eq_true rfl), (Nat.le_of_ble_eq_true rfl)⟩ (Nat.le_of_ble_eq_true rfl) rfl ⟨(Nat.le_of_ble_eq_true rfl), (Nat.le_of_ble_eq_true rfl)⟩ (fun x1 g1 h1 => ?_)
  obtain ⟨p1, k1⟩ := st_when h (xs (i + 1)) (xs (i + 2)) h1
  refine gk_aload_n (pc' := 585) cx dL_law_584 rfl rfl ?_
  refine gk_aload_n (pc' := 586) cx dL_law_585 rfl rfl ?_
  refine gk_iload_n (pc' := 587) cx dL_law_586 rfl rfl ?_
  refine gk_iconst (pc' := 588) cx 1 dL_law_587 rfl rfl ?_
  refine gk_iadd (pc' := 589) cx dL_law_588 rfl ?_
  refine gk_val (w := .int (nI (i + 1))) (congrArg Value.int (nI_add i 1)) ?_
  refine gk_sld (pc' := 590) cx hX hbl hbA hL (k := i + 1) (by omega) dL_law_589 rfl ?_
  refine gk_aload_n (pc' := 591) cx dL_law_590 rfl rfl ?_
  refine gk_iload_n (pc' := 592) cx dL_law_591 rfl rfl ?_
  refine gk_iconst (pc' := 593) cx 2 dL_law_592 rfl rfl ?_
  refine gk_iadd (pc' := 594) cx dL_law_593 rfl ?_
  refine gk_val (w := .int (nI (i + 2))) (congrArg Value.int (nI_add i 2)) ?_
  refine gk_sld (pc' := 595) cx hX hbl hbA hL (k := i + 2) (by omega) dL_law_594 rfl ?_
  refine gk_cVIz (pc' := 598) cx (Nat.le_of_ble_eq_true rfl) (c_X6_when l E p1 (xs (i + 1)) (xs (i + 2))) mX6_when lL_76 dL_law_595 kq88 (ltn rfl) (ltn rfl) rfl rfl rfl ⟨(Nat.le_of_ble_eq_true rfl), (Nat.le_of_ble_eq_true rfl)⟩ (Nat.le_of_ble_eq_true rfl) rfl ⟨(Nat.le_of_ble_eq_true rfl), (Nat.le_of_ble_eq_true rfl)⟩ (fun x2 g2 z2 h2 => ?_)
  obtain ⟨e9, i9⟩ := k1 _ _ h2
  refine gk_icmp_eq (pc' := 601) cx 1119 dL_law_598 rfl rfl (fun _ => kk _ _ _ i9) (fun hh => absurd e9 hh)
set_option maxHeartbeats 2000000 in
set_option maxRecDepth 20000 in
theorem law_15 {p : Program} {l : Launch} {e : Env} {s : State} {m : MethodId} {below : List Frame} {meth : Method} {c : Code} {E : Ev} {rt0 : Option FieldType} {b L : Nat} {xs : Nat → Int32} (cx : Cx p s m #[Value.ref b] meth c E 115 cL_law 4 RL rt0) (hX : va_X b L xs s s.heap) (hbl : b < s.heap.size) (hbA : ¬ Ad E 115 b) (hL : L ≤ 3072) {i : Nat} (hi : i + 6 ≤ L) (kk : ∀ (g : IG) (o : Option Nat) (z : Int64), InvE g → GoK p l e room_1 s m #[Value.ref b] below meth c E 115 4 115 26025 (lw_Z below #[Value.ref b] s) g (RFo o) z 1119 [(3, .int (nI i)), (2, .ref (E.2.1 88)), (1, .ref (E.2.1 0)), (0, .ref b)] []) {g : IG} {o : Option Nat} {z : Int64} {hn vn ru tc : Nat} {CS : CSt} (h : Inv g g hn vn ru tc CS)  : GoK p l e room_1 s m #[Value.ref b] below meth c E 115 4 115 26025 (lw_Z below #[Value.ref b] s) g (RFo o) z 603 [(3, .int (nI i)), (2, .ref (E.2.1 88)), (1, .ref (E.2.1 0)), (0, .ref b)] [] := by
  refine gk_aload_n (pc' := 604) cx dL_law_603 rfl rfl ?_
  refine gk_cVI (pc' := 607) cx (Nat.le_of_ble_eq_true rfl) (c_X5_marked l E h.xp ) mX5_marked lL_77 dL_law_604 kq0 (ltn rfl) (ltn rfl) rfl rfl rfl ⟨(Nat.le_of_ble_eq_true rfl), (Nat.le_of_ble_eq_true rfl)⟩ (Nat.le_of_ble_eq_true rfl) rfl ⟨(Nat.le_of_ble_eq_true rfl), (Nat.le_of_ble_eq_true rfl)⟩ (fun x1 g1 h1 => ?_)
  obtain ⟨p1, k1⟩ := st_marked h  h1
  refine gk_aload_n (pc' := 608) cx dL_law_607 rfl rfl ?_
  refine gk_cVIz (pc' := 611) cx (Nat.le_of_ble_eq_true rfl) (c_X6_marked l E p1 ) mX6_marked lL_80 dL_law_608 kq88 (ltn rfl) (ltn rfl) rfl rfl rfl ⟨(Nat.le_of_ble_eq_true rfl), (Nat.le_of_ble_eq_true rfl)⟩ (Nat.le_of_ble_eq_true rfl) rfl ⟨(Nat.le_of_ble_eq_true rfl), (Nat.le_of_ble_eq_true rfl)⟩ (fun x2 g2 z2 h2 => ?_)
  obtain ⟨e9, i9⟩ := k1 _ _ h2
  refine gk_icmp_eq (pc' := 614) cx 1119 dL_law_611 rfl rfl (fun _ => kk _ _ _ i9) (fun hh => absurd e9 hh)
set_option maxHeartbeats 2000000 in
set_option maxRecDepth 20000 in
theorem law_16 {p : Program} {l : Launch} {e : Env} {s : State} {m : MethodId} {below : List Frame} {meth : Method} {c : Code} {E : Ev} {rt0 : Option FieldType} {b L : Nat} {xs : Nat → Int32} (cx : Cx p s m #[Value.ref b] meth c E 115 cL_law 4 RL rt0) (hX : va_X b L xs s s.heap) (hbl : b < s.heap.size) (hbA : ¬ Ad E 115 b) (hL : L ≤ 3072) {i : Nat} (hi : i + 6 ≤ L) (kk : ∀ (g : IG) (o : Option Nat) (z : Int64), InvE g → GoK p l e room_1 s m #[Value.ref b] below meth c E 115 4 115 26025 (lw_Z below #[Value.ref b] s) g (RFo o) z 1119 [(3, .int (nI i)), (2, .ref (E.2.1 88)), (1, .ref (E.2.1 0)), (0, .ref b)] []) {g : IG} {o : Option Nat} {z : Int64} {hn vn ru tc : Nat} {CS : CSt} (h : Inv g g hn vn ru tc CS)  : GoK p l e room_1 s m #[Value.ref b] below meth c E 115 4 115 26025 (lw_Z below #[Value.ref b] s) g (RFo o) z 616 [(3, .int (nI i)), (2, .ref (E.2.1 88)), (1, .ref (E.2.1 0)), (0, .ref b)] [] := by
  refine gk_aload_n (pc' := 617) cx dL_law_616 rfl rfl ?_
  refine gk_aload_n (pc' := 618) cx dL_law_617 rfl rfl ?_
  refine gk_iload_n (pc' := 619) cx dL_law_618 rfl rfl ?_
  refine gk_iconst (pc' := 620) cx 1 dL_law_619 rfl rfl ?_
  refine gk_iadd (pc' := 621) cx dL_law_620 rfl ?_
  refine gk_val (w := .int (nI (i + 1))) (congrArg Value.int (nI_add i 1)) ?_
  refine gk_sld (pc' := 622) cx hX hbl hbA hL (k := i + 1) (by omega) dL_law_621 rfl ?_
  refine gk_cVI (pc' := 625) cx (Nat.le_of_ble_eq_true rfl) (c_X5_again l E h.xp (xs (i + 1))) mX5_again lL_81 dL_law_622 kq0 (ltn rfl) (ltn rfl) rfl rfl rfl ⟨(Nat.le_of_ble_eq_true rfl), (Nat.le_of_ble_eq_true rfl)⟩ (Nat.le_of_ble_eq_true rfl) rfl ⟨(Nat.le_of_ble_eq_true rfl), (Nat.le_of_ble_eq_true rfl)⟩ (fun x1 g1 h1 => ?_)
  obtain ⟨p1, k1⟩ := st_again h (xs (i + 1)) h1
  refine gk_aload_n (pc' := 626) cx dL_law_625 rfl rfl ?_
  refine gk_aload_n (pc' := 627) cx dL_law_626 rfl rfl ?_
  refine gk_iload_n (pc' := 628) cx dL_law_627 rfl rfl ?_
  refine gk_iconst (pc' := 629) cx 1 dL_law_628 rfl rfl ?_
  refine gk_iadd (pc' := 630) cx dL_law_629 rfl ?_
  refine gk_val (w := .int (nI (i + 1))) (congrArg Value.int (nI_add i 1)) ?_
  refine gk_sld (pc' := 631) cx hX hbl hbA hL (k := i + 1) (by omega) dL_law_630 rfl ?_
  refine gk_cVIz (pc' := 634) cx (Nat.le_of_ble_eq_true rfl) (c_X6_again l E p1 (xs (i + 1))) mX6_again lL_84 dL_law_631 kq88 (ltn rfl) (ltn rfl) rfl rfl rfl ⟨(Nat.le_of_ble_eq_true rfl), (Nat.le_of_ble_eq_true rfl)⟩ (Nat.le_of_ble_eq_true rfl) rfl ⟨(Nat.le_of_ble_eq_true rfl), (Nat.le_of_ble_eq_true rfl)⟩ (fun x2 g2 z2 h2 => ?_)
  obtain ⟨e9, i9⟩ := k1 _ _ h2
  refine gk_icmp_eq (pc' := 637) cx 1119 dL_law_634 rfl rfl (fun _ => kk _ _ _ i9) (fun hh => absurd e9 hh)
set_option maxHeartbeats 2000000 in
set_option maxRecDepth 20000 in
theorem law_17 {p : Program} {l : Launch} {e : Env} {s : State} {m : MethodId} {below : List Frame} {meth : Method} {c : Code} {E : Ev} {rt0 : Option FieldType} {b L : Nat} {xs : Nat → Int32} (cx : Cx p s m #[Value.ref b] meth c E 115 cL_law 4 RL rt0) (hX : va_X b L xs s s.heap) (hbl : b < s.heap.size) (hbA : ¬ Ad E 115 b) (hL : L ≤ 3072) {i : Nat} (hi : i + 6 ≤ L) (kk : ∀ (g : IG) (o : Option Nat) (z : Int64), InvE g → GoK p l e room_1 s m #[Value.ref b] below meth c E 115 4 115 26025 (lw_Z below #[Value.ref b] s) g (RFo o) z 1119 [(3, .int (nI i)), (2, .ref (E.2.1 88)), (1, .ref (E.2.1 0)), (0, .ref b)] []) {g : IG} {o : Option Nat} {z : Int64} {hn vn ru tc : Nat} {CS : CSt} (h : Inv g g hn vn ru tc CS)  : GoK p l e room_1 s m #[Value.ref b] below meth c E 115 4 115 26025 (lw_Z below #[Value.ref b] s) g (RFo o) z 639 [(3, .int (nI i)), (2, .ref (E.2.1 88)), (1, .ref (E.2.1 0)), (0, .ref b)] [] := by
  refine gk_aload_n (pc' := 640) cx dL_law_639 rfl rfl ?_
  refine gk_aload_n (pc' := 641) cx dL_law_640 rfl rfl ?_
  refine gk_iload_n (pc' := 642) cx dL_law_641 rfl rfl ?_
  refine gk_iconst (pc' := 643) cx 1 dL_law_642 rfl rfl ?_
  refine gk_iadd (pc' := 644) cx dL_law_643 rfl ?_
  refine gk_val (w := .int (nI (i + 1))) (congrArg Value.int (nI_add i 1)) ?_
  refine gk_sld (pc' := 645) cx hX hbl hbA hL (k := i + 1) (by omega) dL_law_644 rfl ?_
  refine gk_aload_n (pc' := 646) cx dL_law_645 rfl rfl ?_
  refine gk_iload_n (pc' := 647) cx dL_law_646 rfl rfl ?_
  refine gk_iconst (pc' := 648) cx 2 dL_law_647 rfl rfl ?_
  refine gk_iadd (pc' := 649) cx dL_law_648 rfl ?_
  refine gk_val (w := .int (nI (i + 2))) (congrArg Value.int (nI_add i 2)) ?_
  refine gk_sld (pc' := 650) cx hX hbl hbA hL (k := i + 2) (by omega) dL_law_649 rfl ?_
  refine gk_cVI (pc' := 653) cx (Nat.le_of_ble_eq_true rfl) (c_X5_pictures l E h.xp h.shx (xs (i + 1)) (xs (i + 2))) mX5_pictures lL_85 dL_law_650 kq0 (ltn rfl) (ltn rfl) rfl rfl rfl ⟨(Nat.le_of_ble_eq_true rfl), (Nat.le_of_ble_eq_true rfl)⟩ (Nat.le_of_ble_eq_true rfl) rfl ⟨(Nat.le_of_ble_eq_true rfl), (Nat.le_of_ble_eq_true rfl)⟩ (fun x1 g1 h1 => ?_)
  obtain ⟨p1, k1⟩ := st_pictures h (xs (i + 1)) (xs (i + 2)) h1
  refine gk_aload_n (pc' := 654) cx dL_law_653 rfl rfl ?_
  refine gk_aload_n (pc' := 655) cx dL_law_654 rfl rfl ?_
  refine gk_iload_n (pc' := 656) cx dL_law_655 rfl rfl ?_
  refine gk_iconst (pc' := 657) cx 1 dL_law_656 rfl rfl ?_
  refine gk_iadd (pc' := 658) cx dL_law_657 rfl ?_
  refine gk_val (w := .int (nI (i + 1))) (congrArg Value.int (nI_add i 1)) ?_
  refine gk_sld (pc' := 659) cx hX hbl hbA hL (k := i + 1) (by omega) dL_law_658 rfl ?_
  refine gk_aload_n (pc' := 660) cx dL_law_659 rfl rfl ?_
  refine gk_iload_n (pc' := 661) cx dL_law_660 rfl rfl ?_
  refine gk_iconst (pc' := 662) cx 2 dL_law_661 rfl rfl ?_
  refine gk_iadd (pc' := 663) cx dL_law_662 rfl ?_
  refine gk_val (w := .int (nI (i + 2))) (congrArg Value.int (nI_add i 2)) ?_
  refine gk_sld (pc' := 664) cx hX hbl hbA hL (k := i + 2) (by omega) dL_law_663 rfl ?_
  refine gk_cVIz (pc' := 667) cx (Nat.le_of_ble_eq_true rfl) (c_X6_pictures l E p1.1 p1.2 (xs (i + 1)) (xs (i + 2))) mX6_pictures lL_88 dL_law_664 kq88 (ltn rfl) (ltn rfl) rfl rfl rfl ⟨(Nat.le_of_ble_eq_true rfl), (Nat.le_of_ble_eq_true rfl)⟩ (Nat.le_of_ble_eq_true rfl) rfl ⟨(Nat.le_of_ble_eq_true rfl), (Nat.le_of_ble_eq_true rfl)⟩ (fun x2 g2 z2 h2 => ?_)
  obtain ⟨e9, i9⟩ := k1 _ _ h2
  refine gk_icmp_eq (pc' := 670) cx 1119 dL_law_667 rfl rfl (fun _ => kk _ _ _ i9) (fun hh => absurd e9 hh)
set_option maxHeartbeats 2000000 in
set_option maxRecDepth 20000 in
theorem law_180 {p : Program} {l : Launch} {e : Env} {s : State} {m : MethodId} {below : List Frame} {meth : Method} {c : Code} {E : Ev} {rt0 : Option FieldType} {b L : Nat} {xs : Nat → Int32} (cx : Cx p s m #[Value.ref b] meth c E 115 cL_law 4 RL rt0) (hX : va_X b L xs s s.heap) (hbl : b < s.heap.size) (hbA : ¬ Ad E 115 b) (hL : L ≤ 3072) {i : Nat} (hi : i + 6 ≤ L) (kk : ∀ (g : IG) (o : Option Nat) (z : Int64), InvE g → GoK p l e room_1 s m #[Value.ref b] below meth c E 115 4 115 26025 (lw_Z below #[Value.ref b] s) g (RFo o) z 1119 [(3, .int (nI i)), (2, .ref (E.2.1 88)), (1, .ref (E.2.1 0)), (0, .ref b)] []) {g : IG} {o : Option Nat} {z : Int64} {hn vn ru tc : Nat} {CS : CSt} (h : Inv g g hn vn ru tc CS) (hx : xs (i + 3) = 0) : GoK p l e room_1 s m #[Value.ref b] below meth c E 115 4 115 26025 (lw_Z below #[Value.ref b] s) g (RFo o) z 672 [(3, .int (nI i)), (2, .ref (E.2.1 88)), (1, .ref (E.2.1 0)), (0, .ref b)] [] := by
  refine gk_aload_n (pc' := 673) cx dL_law_672 rfl rfl ?_
  refine gk_aload_n (pc' := 674) cx dL_law_673 rfl rfl ?_
  refine gk_iload_n (pc' := 675) cx dL_law_674 rfl rfl ?_
  refine gk_iconst (pc' := 676) cx 1 dL_law_675 rfl rfl ?_
  refine gk_iadd (pc' := 677) cx dL_law_676 rfl ?_
  refine gk_val (w := .int (nI (i + 1))) (congrArg Value.int (nI_add i 1)) ?_
  refine gk_sld (pc' := 678) cx hX hbl hbA hL (k := i + 1) (by omega) dL_law_677 rfl ?_
  refine gk_aload_n (pc' := 679) cx dL_law_678 rfl rfl ?_
  refine gk_iload_n (pc' := 680) cx dL_law_679 rfl rfl ?_
  refine gk_iconst (pc' := 681) cx 2 dL_law_680 rfl rfl ?_
  refine gk_iadd (pc' := 682) cx dL_law_681 rfl ?_
  refine gk_val (w := .int (nI (i + 2))) (congrArg Value.int (nI_add i 2)) ?_
  refine gk_sld (pc' := 683) cx hX hbl hbA hL (k := i + 2) (by omega) dL_law_682 rfl ?_
  refine gk_aload_n (pc' := 684) cx dL_law_683 rfl rfl ?_
  refine gk_iload_n (pc' := 685) cx dL_law_684 rfl rfl ?_
  refine gk_iconst (pc' := 686) cx 3 dL_law_685 rfl rfl ?_
  refine gk_iadd (pc' := 687) cx dL_law_686 rfl ?_
  refine gk_val (w := .int (nI (i + 3))) (congrArg Value.int (nI_add i 3)) ?_
  refine gk_sld (pc' := 688) cx hX hbl hbA hL (k := i + 3) (by omega) dL_law_687 rfl ?_
  refine gk_aload_n (pc' := 689) cx dL_law_688 rfl rfl ?_
  refine gk_iload_n (pc' := 690) cx dL_law_689 rfl rfl ?_
  refine gk_iconst (pc' := 691) cx 4 dL_law_690 rfl rfl ?_
  refine gk_iadd (pc' := 692) cx dL_law_691 rfl ?_
  refine gk_val (w := .int (nI (i + 4))) (congrArg Value.int (nI_add i 4)) ?_
  refine gk_sld (pc' := 693) cx hX hbl hbA hL (k := i + 4) (by omega) dL_law_692 rfl ?_
  refine gk_cVI (pc' := 696) cx (Nat.le_of_ble_eq_true rfl) (c_X5_seen_0 l E h.xp h.shx (xs (i + 1)) (xs (i + 2)) (xs (i + 4))) mX5_seen lL_89 dL_law_693 kq0 (ltn rfl) (ltn rfl) rfl rfl (by rw [hx]; rfl) ⟨(Nat.le_of_ble_eq_true rfl), (Nat.le_of_ble_eq_true rfl)⟩ (Nat.le_of_ble_eq_true rfl) rfl ⟨(Nat.le_of_ble_eq_true rfl), (Nat.le_of_ble_eq_true rfl)⟩ (fun x1 g1 h1 => ?_)
  obtain ⟨p1, k1⟩ := st_seen h (xs (i + 1)) (xs (i + 2)) (xs (i + 4)) (k := 0) (by omega) h1
  refine gk_aload_n (pc' := 697) cx dL_law_696 rfl rfl ?_
  refine gk_aload_n (pc' := 698) cx dL_law_697 rfl rfl ?_
  refine gk_iload_n (pc' := 699) cx dL_law_698 rfl rfl ?_
  refine gk_iconst (pc' := 700) cx 1 dL_law_699 rfl rfl ?_
  refine gk_iadd (pc' := 701) cx dL_law_700 rfl ?_
  refine gk_val (w := .int (nI (i + 1))) (congrArg Value.int (nI_add i 1)) ?_
  refine gk_sld (pc' := 702) cx hX hbl hbA hL (k := i + 1) (by omega) dL_law_701 rfl ?_
  refine gk_aload_n (pc' := 703) cx dL_law_702 rfl rfl ?_
  refine gk_iload_n (pc' := 704) cx dL_law_703 rfl rfl ?_
  refine gk_iconst (pc' := 705) cx 2 dL_law_704 rfl rfl ?_
  refine gk_iadd (pc' := 706) cx dL_law_705 rfl ?_
  refine gk_val (w := .int (nI (i + 2))) (congrArg Value.int (nI_add i 2)) ?_
  refine gk_sld (pc' := 707) cx hX hbl hbA hL (k := i + 2) (by omega) dL_law_706 rfl ?_
  refine gk_aload_n (pc' := 708) cx dL_law_707 rfl rfl ?_
  refine gk_iload_n (pc' := 709) cx dL_law_708 rfl rfl ?_
  refine gk_iconst (pc' := 710) cx 3 dL_law_709 rfl rfl ?_
  refine gk_iadd (pc' := 711) cx dL_law_710 rfl ?_
  refine gk_val (w := .int (nI (i + 3))) (congrArg Value.int (nI_add i 3)) ?_
  refine gk_sld (pc' := 712) cx hX hbl hbA hL (k := i + 3) (by omega) dL_law_711 rfl ?_
  refine gk_aload_n (pc' := 713) cx dL_law_712 rfl rfl ?_
  refine gk_iload_n (pc' := 714) cx dL_law_713 rfl rfl ?_
  refine gk_iconst (pc' := 715) cx 4 dL_law_714 rfl rfl ?_
  refine gk_iadd (pc' := 716) cx dL_law_715 rfl ?_
  refine gk_val (w := .int (nI (i + 4))) (congrArg Value.int (nI_add i 4)) ?_
  refine gk_sld (pc' := 717) cx hX hbl hbA hL (k := i + 4) (by omega) dL_law_716 rfl ?_
  refine gk_cVIz (pc' := 720) cx (Nat.le_of_ble_eq_true rfl) (c_X6_seen_0 l E p1.1 p1.2 (xs (i + 1)) (xs (i + 2)) (xs (i + 4))) mX6_seen lL_93 dL_law_717 kq88 (ltn rfl) (ltn rfl) rfl rfl (by rw [hx]; rfl) ⟨(Nat.le_of_ble_eq_true rfl), (Nat.le_of_ble_eq_true rfl)⟩ (Nat.le_of_ble_eq_true rfl) rfl ⟨(Nat.le_of_ble_eq_true rfl), (Nat.le_of_ble_eq_true rfl)⟩ (fun x2 g2 z2 h2 => ?_)
  obtain ⟨e9, i9⟩ := k1 _ _ h2
  refine gk_icmp_eq (pc' := 723) cx 1119 dL_law_720 rfl rfl (fun _ => kk _ _ _ i9) (fun hh => absurd e9 hh)
set_option maxHeartbeats 2000000 in
set_option maxRecDepth 20000 in
theorem law_181 {p : Program} {l : Launch} {e : Env} {s : State} {m : MethodId} {below : List Frame} {meth : Method} {c : Code} {E : Ev} {rt0 : Option FieldType} {b L : Nat} {xs : Nat → Int32} (cx : Cx p s m #[Value.ref b] meth c E 115 cL_law 4 RL rt0) (hX : va_X b L xs s s.heap) (hbl : b < s.heap.size) (hbA : ¬ Ad E 115 b) (hL : L ≤ 3072) {i : Nat} (hi : i + 6 ≤ L) (kk : ∀ (g : IG) (o : Option Nat) (z : Int64), InvE g → GoK p l e room_1 s m #[Value.ref b] below meth c E 115 4 115 26025 (lw_Z below #[Value.ref b] s) g (RFo o) z 1119 [(3, .int (nI i)), (2, .ref (E.2.1 88)), (1, .ref (E.2.1 0)), (0, .ref b)] []) {g : IG} {o : Option Nat} {z : Int64} {hn vn ru tc : Nat} {CS : CSt} (h : Inv g g hn vn ru tc CS) (hx : xs (i + 3) = 1) : GoK p l e room_1 s m #[Value.ref b] below meth c E 115 4 115 26025 (lw_Z below #[Value.ref b] s) g (RFo o) z 672 [(3, .int (nI i)), (2, .ref (E.2.1 88)), (1, .ref (E.2.1 0)), (0, .ref b)] [] := by
  refine gk_aload_n (pc' := 673) cx dL_law_672 rfl rfl ?_
  refine gk_aload_n (pc' := 674) cx dL_law_673 rfl rfl ?_
  refine gk_iload_n (pc' := 675) cx dL_law_674 rfl rfl ?_
  refine gk_iconst (pc' := 676) cx 1 dL_law_675 rfl rfl ?_
  refine gk_iadd (pc' := 677) cx dL_law_676 rfl ?_
  refine gk_val (w := .int (nI (i + 1))) (congrArg Value.int (nI_add i 1)) ?_
  refine gk_sld (pc' := 678) cx hX hbl hbA hL (k := i + 1) (by omega) dL_law_677 rfl ?_
  refine gk_aload_n (pc' := 679) cx dL_law_678 rfl rfl ?_
  refine gk_iload_n (pc' := 680) cx dL_law_679 rfl rfl ?_
  refine gk_iconst (pc' := 681) cx 2 dL_law_680 rfl rfl ?_
  refine gk_iadd (pc' := 682) cx dL_law_681 rfl ?_
  refine gk_val (w := .int (nI (i + 2))) (congrArg Value.int (nI_add i 2)) ?_
  refine gk_sld (pc' := 683) cx hX hbl hbA hL (k := i + 2) (by omega) dL_law_682 rfl ?_
  refine gk_aload_n (pc' := 684) cx dL_law_683 rfl rfl ?_
  refine gk_iload_n (pc' := 685) cx dL_law_684 rfl rfl ?_
  refine gk_iconst (pc' := 686) cx 3 dL_law_685 rfl rfl ?_
  refine gk_iadd (pc' := 687) cx dL_law_686 rfl ?_
  refine gk_val (w := .int (nI (i + 3))) (congrArg Value.int (nI_add i 3)) ?_
  refine gk_sld (pc' := 688) cx hX hbl hbA hL (k := i + 3) (by omega) dL_law_687 rfl ?_
  refine gk_aload_n (pc' := 689) cx dL_law_688 rfl rfl ?_
  refine gk_iload_n (pc' := 690) cx dL_law_689 rfl rfl ?_
  refine gk_iconst (pc' := 691) cx 4 dL_law_690 rfl rfl ?_
  refine gk_iadd (pc' := 692) cx dL_law_691 rfl ?_
  refine gk_val (w := .int (nI (i + 4))) (congrArg Value.int (nI_add i 4)) ?_
  refine gk_sld (pc' := 693) cx hX hbl hbA hL (k := i + 4) (by omega) dL_law_692 rfl ?_
  refine gk_cVI (pc' := 696) cx (Nat.le_of_ble_eq_true rfl) (c_X5_seen_1 l E h.xp h.shx (xs (i + 1)) (xs (i + 2)) (xs (i + 4))) mX5_seen lL_89 dL_law_693 kq0 (ltn rfl) (ltn rfl) rfl rfl (by rw [hx]; rfl) ⟨(Nat.le_of_ble_eq_true rfl), (Nat.le_of_ble_eq_true rfl)⟩ (Nat.le_of_ble_eq_true rfl) rfl ⟨(Nat.le_of_ble_eq_true rfl), (Nat.le_of_ble_eq_true rfl)⟩ (fun x1 g1 h1 => ?_)
  obtain ⟨p1, k1⟩ := st_seen h (xs (i + 1)) (xs (i + 2)) (xs (i + 4)) (k := 1) (by omega) h1
  refine gk_aload_n (pc' := 697) cx dL_law_696 rfl rfl ?_
  refine gk_aload_n (pc' := 698) cx dL_law_697 rfl rfl ?_
  refine gk_iload_n (pc' := 699) cx dL_law_698 rfl rfl ?_
  refine gk_iconst (pc' := 700) cx 1 dL_law_699 rfl rfl ?_
  refine gk_iadd (pc' := 701) cx dL_law_700 rfl ?_
  refine gk_val (w := .int (nI (i + 1))) (congrArg Value.int (nI_add i 1)) ?_
  refine gk_sld (pc' := 702) cx hX hbl hbA hL (k := i + 1) (by omega) dL_law_701 rfl ?_
  refine gk_aload_n (pc' := 703) cx dL_law_702 rfl rfl ?_
  refine gk_iload_n (pc' := 704) cx dL_law_703 rfl rfl ?_
  refine gk_iconst (pc' := 705) cx 2 dL_law_704 rfl rfl ?_
  refine gk_iadd (pc' := 706) cx dL_law_705 rfl ?_
  refine gk_val (w := .int (nI (i + 2))) (congrArg Value.int (nI_add i 2)) ?_
  refine gk_sld (pc' := 707) cx hX hbl hbA hL (k := i + 2) (by omega) dL_law_706 rfl ?_
  refine gk_aload_n (pc' := 708) cx dL_law_707 rfl rfl ?_
  refine gk_iload_n (pc' := 709) cx dL_law_708 rfl rfl ?_
  refine gk_iconst (pc' := 710) cx 3 dL_law_709 rfl rfl ?_
  refine gk_iadd (pc' := 711) cx dL_law_710 rfl ?_
  refine gk_val (w := .int (nI (i + 3))) (congrArg Value.int (nI_add i 3)) ?_
  refine gk_sld (pc' := 712) cx hX hbl hbA hL (k := i + 3) (by omega) dL_law_711 rfl ?_
  refine gk_aload_n (pc' := 713) cx dL_law_712 rfl rfl ?_
  refine gk_iload_n (pc' := 714) cx dL_law_713 rfl rfl ?_
  refine gk_iconst (pc' := 715) cx 4 dL_law_714 rfl rfl ?_
  refine gk_iadd (pc' := 716) cx dL_law_715 rfl ?_
  refine gk_val (w := .int (nI (i + 4))) (congrArg Value.int (nI_add i 4)) ?_
  refine gk_sld (pc' := 717) cx hX hbl hbA hL (k := i + 4) (by omega) dL_law_716 rfl ?_
  refine gk_cVIz (pc' := 720) cx (Nat.le_of_ble_eq_true rfl) (c_X6_seen_1 l E p1.1 p1.2 (xs (i + 1)) (xs (i + 2)) (xs (i + 4))) mX6_seen lL_93 dL_law_717 kq88 (ltn rfl) (ltn rfl) rfl rfl (by rw [hx]; rfl) ⟨(Nat.le_of_ble_eq_true rfl), (Nat.le_of_ble_eq_true rfl)⟩ (Nat.le_of_ble_eq_true rfl) rfl ⟨(Nat.le_of_ble_eq_true rfl), (Nat.le_of_ble_eq_true rfl)⟩ (fun x2 g2 z2 h2 => ?_)
  obtain ⟨e9, i9⟩ := k1 _ _ h2
  refine gk_icmp_eq (pc' := 723) cx 1119 dL_law_720 rfl rfl (fun _ => kk _ _ _ i9) (fun hh => absurd e9 hh)
set_option maxHeartbeats 2000000 in
set_option maxRecDepth 20000 in
theorem law_182 {p : Program} {l : Launch} {e : Env} {s : State} {m : MethodId} {below : List Frame} {meth : Method} {c : Code} {E : Ev} {rt0 : Option FieldType} {b L : Nat} {xs : Nat → Int32} (cx : Cx p s m #[Value.ref b] meth c E 115 cL_law 4 RL rt0) (hX : va_X b L xs s s.heap) (hbl : b < s.heap.size) (hbA : ¬ Ad E 115 b) (hL : L ≤ 3072) {i : Nat} (hi : i + 6 ≤ L) (kk : ∀ (g : IG) (o : Option Nat) (z : Int64), InvE g → GoK p l e room_1 s m #[Value.ref b] below meth c E 115 4 115 26025 (lw_Z below #[Value.ref b] s) g (RFo o) z 1119 [(3, .int (nI i)), (2, .ref (E.2.1 88)), (1, .ref (E.2.1 0)), (0, .ref b)] []) {g : IG} {o : Option Nat} {z : Int64} {hn vn ru tc : Nat} {CS : CSt} (h : Inv g g hn vn ru tc CS) (hx : xs (i + 3) = 2) : GoK p l e room_1 s m #[Value.ref b] below meth c E 115 4 115 26025 (lw_Z below #[Value.ref b] s) g (RFo o) z 672 [(3, .int (nI i)), (2, .ref (E.2.1 88)), (1, .ref (E.2.1 0)), (0, .ref b)] [] := by
  refine gk_aload_n (pc' := 673) cx dL_law_672 rfl rfl ?_
  refine gk_aload_n (pc' := 674) cx dL_law_673 rfl rfl ?_
  refine gk_iload_n (pc' := 675) cx dL_law_674 rfl rfl ?_
  refine gk_iconst (pc' := 676) cx 1 dL_law_675 rfl rfl ?_
  refine gk_iadd (pc' := 677) cx dL_law_676 rfl ?_
  refine gk_val (w := .int (nI (i + 1))) (congrArg Value.int (nI_add i 1)) ?_
  refine gk_sld (pc' := 678) cx hX hbl hbA hL (k := i + 1) (by omega) dL_law_677 rfl ?_
  refine gk_aload_n (pc' := 679) cx dL_law_678 rfl rfl ?_
  refine gk_iload_n (pc' := 680) cx dL_law_679 rfl rfl ?_
  refine gk_iconst (pc' := 681) cx 2 dL_law_680 rfl rfl ?_
  refine gk_iadd (pc' := 682) cx dL_law_681 rfl ?_
  refine gk_val (w := .int (nI (i + 2))) (congrArg Value.int (nI_add i 2)) ?_
  refine gk_sld (pc' := 683) cx hX hbl hbA hL (k := i + 2) (by omega) dL_law_682 rfl ?_
  refine gk_aload_n (pc' := 684) cx dL_law_683 rfl rfl ?_
  refine gk_iload_n (pc' := 685) cx dL_law_684 rfl rfl ?_
  refine gk_iconst (pc' := 686) cx 3 dL_law_685 rfl rfl ?_
  refine gk_iadd (pc' := 687) cx dL_law_686 rfl ?_
  refine gk_val (w := .int (nI (i + 3))) (congrArg Value.int (nI_add i 3)) ?_
  refine gk_sld (pc' := 688) cx hX hbl hbA hL (k := i + 3) (by omega) dL_law_687 rfl ?_
  refine gk_aload_n (pc' := 689) cx dL_law_688 rfl rfl ?_
  refine gk_iload_n (pc' := 690) cx dL_law_689 rfl rfl ?_
  refine gk_iconst (pc' := 691) cx 4 dL_law_690 rfl rfl ?_
  refine gk_iadd (pc' := 692) cx dL_law_691 rfl ?_
  refine gk_val (w := .int (nI (i + 4))) (congrArg Value.int (nI_add i 4)) ?_
  refine gk_sld (pc' := 693) cx hX hbl hbA hL (k := i + 4) (by omega) dL_law_692 rfl ?_
  refine gk_cVI (pc' := 696) cx (Nat.le_of_ble_eq_true rfl) (c_X5_seen_2 l E h.xp h.shx (xs (i + 1)) (xs (i + 2)) (xs (i + 4))) mX5_seen lL_89 dL_law_693 kq0 (ltn rfl) (ltn rfl) rfl rfl (by rw [hx]; rfl) ⟨(Nat.le_of_ble_eq_true rfl), (Nat.le_of_ble_eq_true rfl)⟩ (Nat.le_of_ble_eq_true rfl) rfl ⟨(Nat.le_of_ble_eq_true rfl), (Nat.le_of_ble_eq_true rfl)⟩ (fun x1 g1 h1 => ?_)
  obtain ⟨p1, k1⟩ := st_seen h (xs (i + 1)) (xs (i + 2)) (xs (i + 4)) (k := 2) (by omega) h1
  refine gk_aload_n (pc' := 697) cx dL_law_696 rfl rfl ?_
  refine gk_aload_n (pc' := 698) cx dL_law_697 rfl rfl ?_
  refine gk_iload_n (pc' := 699) cx dL_law_698 rfl rfl ?_
  refine gk_iconst (pc' := 700) cx 1 dL_law_699 rfl rfl ?_
  refine gk_iadd (pc' := 701) cx dL_law_700 rfl ?_
  refine gk_val (w := .int (nI (i + 1))) (congrArg Value.int (nI_add i 1)) ?_
  refine gk_sld (pc' := 702) cx hX hbl hbA hL (k := i + 1) (by omega) dL_law_701 rfl ?_
  refine gk_aload_n (pc' := 703) cx dL_law_702 rfl rfl ?_
  refine gk_iload_n (pc' := 704) cx dL_law_703 rfl rfl ?_
  refine gk_iconst (pc' := 705) cx 2 dL_law_704 rfl rfl ?_
  refine gk_iadd (pc' := 706) cx dL_law_705 rfl ?_
  refine gk_val (w := .int (nI (i + 2))) (congrArg Value.int (nI_add i 2)) ?_
  refine gk_sld (pc' := 707) cx hX hbl hbA hL (k := i + 2) (by omega) dL_law_706 rfl ?_
  refine gk_aload_n (pc' := 708) cx dL_law_707 rfl rfl ?_
  refine gk_iload_n (pc' := 709) cx dL_law_708 rfl rfl ?_
  refine gk_iconst (pc' := 710) cx 3 dL_law_709 rfl rfl ?_
  refine gk_iadd (pc' := 711) cx dL_law_710 rfl ?_
  refine gk_val (w := .int (nI (i + 3))) (congrArg Value.int (nI_add i 3)) ?_
  refine gk_sld (pc' := 712) cx hX hbl hbA hL (k := i + 3) (by omega) dL_law_711 rfl ?_
  refine gk_aload_n (pc' := 713) cx dL_law_712 rfl rfl ?_
  refine gk_iload_n (pc' := 714) cx dL_law_713 rfl rfl ?_
  refine gk_iconst (pc' := 715) cx 4 dL_law_714 rfl rfl ?_
  refine gk_iadd (pc' := 716) cx dL_law_715 rfl ?_
  refine gk_val (w := .int (nI (i + 4))) (congrArg Value.int (nI_add i 4)) ?_
  refine gk_sld (pc' := 717) cx hX hbl hbA hL (k := i + 4) (by omega) dL_law_716 rfl ?_
  refine gk_cVIz (pc' := 720) cx (Nat.le_of_ble_eq_true rfl) (c_X6_seen_2 l E p1.1 p1.2 (xs (i + 1)) (xs (i + 2)) (xs (i + 4))) mX6_seen lL_93 dL_law_717 kq88 (ltn rfl) (ltn rfl) rfl rfl (by rw [hx]; rfl) ⟨(Nat.le_of_ble_eq_true rfl), (Nat.le_of_ble_eq_true rfl)⟩ (Nat.le_of_ble_eq_true rfl) rfl ⟨(Nat.le_of_ble_eq_true rfl), (Nat.le_of_ble_eq_true rfl)⟩ (fun x2 g2 z2 h2 => ?_)
  obtain ⟨e9, i9⟩ := k1 _ _ h2
  refine gk_icmp_eq (pc' := 723) cx 1119 dL_law_720 rfl rfl (fun _ => kk _ _ _ i9) (fun hh => absurd e9 hh)
set_option maxHeartbeats 2000000 in
set_option maxRecDepth 20000 in
theorem law_183 {p : Program} {l : Launch} {e : Env} {s : State} {m : MethodId} {below : List Frame} {meth : Method} {c : Code} {E : Ev} {rt0 : Option FieldType} {b L : Nat} {xs : Nat → Int32} (cx : Cx p s m #[Value.ref b] meth c E 115 cL_law 4 RL rt0) (hX : va_X b L xs s s.heap) (hbl : b < s.heap.size) (hbA : ¬ Ad E 115 b) (hL : L ≤ 3072) {i : Nat} (hi : i + 6 ≤ L) (kk : ∀ (g : IG) (o : Option Nat) (z : Int64), InvE g → GoK p l e room_1 s m #[Value.ref b] below meth c E 115 4 115 26025 (lw_Z below #[Value.ref b] s) g (RFo o) z 1119 [(3, .int (nI i)), (2, .ref (E.2.1 88)), (1, .ref (E.2.1 0)), (0, .ref b)] []) {g : IG} {o : Option Nat} {z : Int64} {hn vn ru tc : Nat} {CS : CSt} (h : Inv g g hn vn ru tc CS) (hx : xs (i + 3) = 3) : GoK p l e room_1 s m #[Value.ref b] below meth c E 115 4 115 26025 (lw_Z below #[Value.ref b] s) g (RFo o) z 672 [(3, .int (nI i)), (2, .ref (E.2.1 88)), (1, .ref (E.2.1 0)), (0, .ref b)] [] := by
  refine gk_aload_n (pc' := 673) cx dL_law_672 rfl rfl ?_
  refine gk_aload_n (pc' := 674) cx dL_law_673 rfl rfl ?_
  refine gk_iload_n (pc' := 675) cx dL_law_674 rfl rfl ?_
  refine gk_iconst (pc' := 676) cx 1 dL_law_675 rfl rfl ?_
  refine gk_iadd (pc' := 677) cx dL_law_676 rfl ?_
  refine gk_val (w := .int (nI (i + 1))) (congrArg Value.int (nI_add i 1)) ?_
  refine gk_sld (pc' := 678) cx hX hbl hbA hL (k := i + 1) (by omega) dL_law_677 rfl ?_
  refine gk_aload_n (pc' := 679) cx dL_law_678 rfl rfl ?_
  refine gk_iload_n (pc' := 680) cx dL_law_679 rfl rfl ?_
  refine gk_iconst (pc' := 681) cx 2 dL_law_680 rfl rfl ?_
  refine gk_iadd (pc' := 682) cx dL_law_681 rfl ?_
  refine gk_val (w := .int (nI (i + 2))) (congrArg Value.int (nI_add i 2)) ?_
  refine gk_sld (pc' := 683) cx hX hbl hbA hL (k := i + 2) (by omega) dL_law_682 rfl ?_
  refine gk_aload_n (pc' := 684) cx dL_law_683 rfl rfl ?_
  refine gk_iload_n (pc' := 685) cx dL_law_684 rfl rfl ?_
  refine gk_iconst (pc' := 686) cx 3 dL_law_685 rfl rfl ?_
  refine gk_iadd (pc' := 687) cx dL_law_686 rfl ?_
  refine gk_val (w := .int (nI (i + 3))) (congrArg Value.int (nI_add i 3)) ?_
  refine gk_sld (pc' := 688) cx hX hbl hbA hL (k := i + 3) (by omega) dL_law_687 rfl ?_
  refine gk_aload_n (pc' := 689) cx dL_law_688 rfl rfl ?_
  refine gk_iload_n (pc' := 690) cx dL_law_689 rfl rfl ?_
  refine gk_iconst (pc' := 691) cx 4 dL_law_690 rfl rfl ?_
  refine gk_iadd (pc' := 692) cx dL_law_691 rfl ?_
  refine gk_val (w := .int (nI (i + 4))) (congrArg Value.int (nI_add i 4)) ?_
  refine gk_sld (pc' := 693) cx hX hbl hbA hL (k := i + 4) (by omega) dL_law_692 rfl ?_
  refine gk_cVI (pc' := 696) cx (Nat.le_of_ble_eq_true rfl) (c_X5_seen_3 l E h.xp h.shx (xs (i + 1)) (xs (i + 2)) (xs (i + 4))) mX5_seen lL_89 dL_law_693 kq0 (ltn rfl) (ltn rfl) rfl rfl (by rw [hx]; rfl) ⟨(Nat.le_of_ble_eq_true rfl), (Nat.le_of_ble_eq_true rfl)⟩ (Nat.le_of_ble_eq_true rfl) rfl ⟨(Nat.le_of_ble_eq_true rfl), (Nat.le_of_ble_eq_true rfl)⟩ (fun x1 g1 h1 => ?_)
  obtain ⟨p1, k1⟩ := st_seen h (xs (i + 1)) (xs (i + 2)) (xs (i + 4)) (k := 3) (by omega) h1
  refine gk_aload_n (pc' := 697) cx dL_law_696 rfl rfl ?_
  refine gk_aload_n (pc' := 698) cx dL_law_697 rfl rfl ?_
  refine gk_iload_n (pc' := 699) cx dL_law_698 rfl rfl ?_
  refine gk_iconst (pc' := 700) cx 1 dL_law_699 rfl rfl ?_
  refine gk_iadd (pc' := 701) cx dL_law_700 rfl ?_
  refine gk_val (w := .int (nI (i + 1))) (congrArg Value.int (nI_add i 1)) ?_
  refine gk_sld (pc' := 702) cx hX hbl hbA hL (k := i + 1) (by omega) dL_law_701 rfl ?_
  refine gk_aload_n (pc' := 703) cx dL_law_702 rfl rfl ?_
  refine gk_iload_n (pc' := 704) cx dL_law_703 rfl rfl ?_
  refine gk_iconst (pc' := 705) cx 2 dL_law_704 rfl rfl ?_
  refine gk_iadd (pc' := 706) cx dL_law_705 rfl ?_
  refine gk_val (w := .int (nI (i + 2))) (congrArg Value.int (nI_add i 2)) ?_
  refine gk_sld (pc' := 707) cx hX hbl hbA hL (k := i + 2) (by omega) dL_law_706 rfl ?_
  refine gk_aload_n (pc' := 708) cx dL_law_707 rfl rfl ?_
  refine gk_iload_n (pc' := 709) cx dL_law_708 rfl rfl ?_
  refine gk_iconst (pc' := 710) cx 3 dL_law_709 rfl rfl ?_
  refine gk_iadd (pc' := 711) cx dL_law_710 rfl ?_
  refine gk_val (w := .int (nI (i + 3))) (congrArg Value.int (nI_add i 3)) ?_
  refine gk_sld (pc' := 712) cx hX hbl hbA hL (k := i + 3) (by omega) dL_law_711 rfl ?_
  refine gk_aload_n (pc' := 713) cx dL_law_712 rfl rfl ?_
  refine gk_iload_n (pc' := 714) cx dL_law_713 rfl rfl ?_
  refine gk_iconst (pc' := 715) cx 4 dL_law_714 rfl rfl ?_
  refine gk_iadd (pc' := 716) cx dL_law_715 rfl ?_
  refine gk_val (w := .int (nI (i + 4))) (congrArg Value.int (nI_add i 4)) ?_
  refine gk_sld (pc' := 717) cx hX hbl hbA hL (k := i + 4) (by omega) dL_law_716 rfl ?_
  refine gk_cVIz (pc' := 720) cx (Nat.le_of_ble_eq_true rfl) (c_X6_seen_3 l E p1.1 p1.2 (xs (i + 1)) (xs (i + 2)) (xs (i + 4))) mX6_seen lL_93 dL_law_717 kq88 (ltn rfl) (ltn rfl) rfl rfl (by rw [hx]; rfl) ⟨(Nat.le_of_ble_eq_true rfl), (Nat.le_of_ble_eq_true rfl)⟩ (Nat.le_of_ble_eq_true rfl) rfl ⟨(Nat.le_of_ble_eq_true rfl), (Nat.le_of_ble_eq_true rfl)⟩ (fun x2 g2 z2 h2 => ?_)
  obtain ⟨e9, i9⟩ := k1 _ _ h2
  refine gk_icmp_eq (pc' := 723) cx 1119 dL_law_720 rfl rfl (fun _ => kk _ _ _ i9) (fun hh => absurd e9 hh)
set_option maxHeartbeats 2000000 in
set_option maxRecDepth 20000 in
theorem law_184 {p : Program} {l : Launch} {e : Env} {s : State} {m : MethodId} {below : List Frame} {meth : Method} {c : Code} {E : Ev} {rt0 : Option FieldType} {b L : Nat} {xs : Nat → Int32} (cx : Cx p s m #[Value.ref b] meth c E 115 cL_law 4 RL rt0) (hX : va_X b L xs s s.heap) (hbl : b < s.heap.size) (hbA : ¬ Ad E 115 b) (hL : L ≤ 3072) {i : Nat} (hi : i + 6 ≤ L) (kk : ∀ (g : IG) (o : Option Nat) (z : Int64), InvE g → GoK p l e room_1 s m #[Value.ref b] below meth c E 115 4 115 26025 (lw_Z below #[Value.ref b] s) g (RFo o) z 1119 [(3, .int (nI i)), (2, .ref (E.2.1 88)), (1, .ref (E.2.1 0)), (0, .ref b)] []) {g : IG} {o : Option Nat} {z : Int64} {hn vn ru tc : Nat} {CS : CSt} (h : Inv g g hn vn ru tc CS) (hx : xs (i + 3) = 4) : GoK p l e room_1 s m #[Value.ref b] below meth c E 115 4 115 26025 (lw_Z below #[Value.ref b] s) g (RFo o) z 672 [(3, .int (nI i)), (2, .ref (E.2.1 88)), (1, .ref (E.2.1 0)), (0, .ref b)] [] := by
  refine gk_aload_n (pc' := 673) cx dL_law_672 rfl rfl ?_
  refine gk_aload_n (pc' := 674) cx dL_law_673 rfl rfl ?_
  refine gk_iload_n (pc' := 675) cx dL_law_674 rfl rfl ?_
  refine gk_iconst (pc' := 676) cx 1 dL_law_675 rfl rfl ?_
  refine gk_iadd (pc' := 677) cx dL_law_676 rfl ?_
  refine gk_val (w := .int (nI (i + 1))) (congrArg Value.int (nI_add i 1)) ?_
  refine gk_sld (pc' := 678) cx hX hbl hbA hL (k := i + 1) (by omega) dL_law_677 rfl ?_
  refine gk_aload_n (pc' := 679) cx dL_law_678 rfl rfl ?_
  refine gk_iload_n (pc' := 680) cx dL_law_679 rfl rfl ?_
  refine gk_iconst (pc' := 681) cx 2 dL_law_680 rfl rfl ?_
  refine gk_iadd (pc' := 682) cx dL_law_681 rfl ?_
  refine gk_val (w := .int (nI (i + 2))) (congrArg Value.int (nI_add i 2)) ?_
  refine gk_sld (pc' := 683) cx hX hbl hbA hL (k := i + 2) (by omega) dL_law_682 rfl ?_
  refine gk_aload_n (pc' := 684) cx dL_law_683 rfl rfl ?_
  refine gk_iload_n (pc' := 685) cx dL_law_684 rfl rfl ?_
  refine gk_iconst (pc' := 686) cx 3 dL_law_685 rfl rfl ?_
  refine gk_iadd (pc' := 687) cx dL_law_686 rfl ?_
  refine gk_val (w := .int (nI (i + 3))) (congrArg Value.int (nI_add i 3)) ?_
  refine gk_sld (pc' := 688) cx hX hbl hbA hL (k := i + 3) (by omega) dL_law_687 rfl ?_
  refine gk_aload_n (pc' := 689) cx dL_law_688 rfl rfl ?_
  refine gk_iload_n (pc' := 690) cx dL_law_689 rfl rfl ?_
  refine gk_iconst (pc' := 691) cx 4 dL_law_690 rfl rfl ?_
  refine gk_iadd (pc' := 692) cx dL_law_691 rfl ?_
  refine gk_val (w := .int (nI (i + 4))) (congrArg Value.int (nI_add i 4)) ?_
  refine gk_sld (pc' := 693) cx hX hbl hbA hL (k := i + 4) (by omega) dL_law_692 rfl ?_
  refine gk_cVI (pc' := 696) cx (Nat.le_of_ble_eq_true rfl) (c_X5_seen_4 l E h.xp h.shx (xs (i + 1)) (xs (i + 2)) (xs (i + 4))) mX5_seen lL_89 dL_law_693 kq0 (ltn rfl) (ltn rfl) rfl rfl (by rw [hx]; rfl) ⟨(Nat.le_of_ble_eq_true rfl), (Nat.le_of_ble_eq_true rfl)⟩ (Nat.le_of_ble_eq_true rfl) rfl ⟨(Nat.le_of_ble_eq_true rfl), (Nat.le_of_ble_eq_true rfl)⟩ (fun x1 g1 h1 => ?_)
  obtain ⟨p1, k1⟩ := st_seen h (xs (i + 1)) (xs (i + 2)) (xs (i + 4)) (k := 4) (by omega) h1
  refine gk_aload_n (pc' := 697) cx dL_law_696 rfl rfl ?_
  refine gk_aload_n (pc' := 698) cx dL_law_697 rfl rfl ?_
  refine gk_iload_n (pc' := 699) cx dL_law_698 rfl rfl ?_
  refine gk_iconst (pc' := 700) cx 1 dL_law_699 rfl rfl ?_
  refine gk_iadd (pc' := 701) cx dL_law_700 rfl ?_
  refine gk_val (w := .int (nI (i + 1))) (congrArg Value.int (nI_add i 1)) ?_
  refine gk_sld (pc' := 702) cx hX hbl hbA hL (k := i + 1) (by omega) dL_law_701 rfl ?_
  refine gk_aload_n (pc' := 703) cx dL_law_702 rfl rfl ?_
  refine gk_iload_n (pc' := 704) cx dL_law_703 rfl rfl ?_
  refine gk_iconst (pc' := 705) cx 2 dL_law_704 rfl rfl ?_
  refine gk_iadd (pc' := 706) cx dL_law_705 rfl ?_
  refine gk_val (w := .int (nI (i + 2))) (congrArg Value.int (nI_add i 2)) ?_
  refine gk_sld (pc' := 707) cx hX hbl hbA hL (k := i + 2) (by omega) dL_law_706 rfl ?_
  refine gk_aload_n (pc' := 708) cx dL_law_707 rfl rfl ?_
  refine gk_iload_n (pc' := 709) cx dL_law_708 rfl rfl ?_
  refine gk_iconst (pc' := 710) cx 3 dL_law_709 rfl rfl ?_
  refine gk_iadd (pc' := 711) cx dL_law_710 rfl ?_
  refine gk_val (w := .int (nI (i + 3))) (congrArg Value.int (nI_add i 3)) ?_
  refine gk_sld (pc' := 712) cx hX hbl hbA hL (k := i + 3) (by omega) dL_law_711 rfl ?_
  refine gk_aload_n (pc' := 713) cx dL_law_712 rfl rfl ?_
  refine gk_iload_n (pc' := 714) cx dL_law_713 rfl rfl ?_
  refine gk_iconst (pc' := 715) cx 4 dL_law_714 rfl rfl ?_
  refine gk_iadd (pc' := 716) cx dL_law_715 rfl ?_
  refine gk_val (w := .int (nI (i + 4))) (congrArg Value.int (nI_add i 4)) ?_
  refine gk_sld (pc' := 717) cx hX hbl hbA hL (k := i + 4) (by omega) dL_law_716 rfl ?_
  refine gk_cVIz (pc' := 720) cx (Nat.le_of_ble_eq_true rfl) (c_X6_seen_4 l E p1.1 p1.2 (xs (i + 1)) (xs (i + 2)) (xs (i + 4))) mX6_seen lL_93 dL_law_717 kq88 (ltn rfl) (ltn rfl) rfl rfl (by rw [hx]; rfl) ⟨(Nat.le_of_ble_eq_true rfl), (Nat.le_of_ble_eq_true rfl)⟩ (Nat.le_of_ble_eq_true rfl) rfl ⟨(Nat.le_of_ble_eq_true rfl), (Nat.le_of_ble_eq_true rfl)⟩ (fun x2 g2 z2 h2 => ?_)
  obtain ⟨e9, i9⟩ := k1 _ _ h2
  refine gk_icmp_eq (pc' := 723) cx 1119 dL_law_720 rfl rfl (fun _ => kk _ _ _ i9) (fun hh => absurd e9 hh)
set_option maxHeartbeats 2000000 in
set_option maxRecDepth 20000 in
theorem law_185 {p : Program} {l : Launch} {e : Env} {s : State} {m : MethodId} {below : List Frame} {meth : Method} {c : Code} {E : Ev} {rt0 : Option FieldType} {b L : Nat} {xs : Nat → Int32} (cx : Cx p s m #[Value.ref b] meth c E 115 cL_law 4 RL rt0) (hX : va_X b L xs s s.heap) (hbl : b < s.heap.size) (hbA : ¬ Ad E 115 b) (hL : L ≤ 3072) {i : Nat} (hi : i + 6 ≤ L) (kk : ∀ (g : IG) (o : Option Nat) (z : Int64), InvE g → GoK p l e room_1 s m #[Value.ref b] below meth c E 115 4 115 26025 (lw_Z below #[Value.ref b] s) g (RFo o) z 1119 [(3, .int (nI i)), (2, .ref (E.2.1 88)), (1, .ref (E.2.1 0)), (0, .ref b)] []) {g : IG} {o : Option Nat} {z : Int64} {hn vn ru tc : Nat} {CS : CSt} (h : Inv g g hn vn ru tc CS) (hx : xs (i + 3) = 5) : GoK p l e room_1 s m #[Value.ref b] below meth c E 115 4 115 26025 (lw_Z below #[Value.ref b] s) g (RFo o) z 672 [(3, .int (nI i)), (2, .ref (E.2.1 88)), (1, .ref (E.2.1 0)), (0, .ref b)] [] := by
  refine gk_aload_n (pc' := 673) cx dL_law_672 rfl rfl ?_
  refine gk_aload_n (pc' := 674) cx dL_law_673 rfl rfl ?_
  refine gk_iload_n (pc' := 675) cx dL_law_674 rfl rfl ?_
  refine gk_iconst (pc' := 676) cx 1 dL_law_675 rfl rfl ?_
  refine gk_iadd (pc' := 677) cx dL_law_676 rfl ?_
  refine gk_val (w := .int (nI (i + 1))) (congrArg Value.int (nI_add i 1)) ?_
  refine gk_sld (pc' := 678) cx hX hbl hbA hL (k := i + 1) (by omega) dL_law_677 rfl ?_
  refine gk_aload_n (pc' := 679) cx dL_law_678 rfl rfl ?_
  refine gk_iload_n (pc' := 680) cx dL_law_679 rfl rfl ?_
  refine gk_iconst (pc' := 681) cx 2 dL_law_680 rfl rfl ?_
  refine gk_iadd (pc' := 682) cx dL_law_681 rfl ?_
  refine gk_val (w := .int (nI (i + 2))) (congrArg Value.int (nI_add i 2)) ?_
  refine gk_sld (pc' := 683) cx hX hbl hbA hL (k := i + 2) (by omega) dL_law_682 rfl ?_
  refine gk_aload_n (pc' := 684) cx dL_law_683 rfl rfl ?_
  refine gk_iload_n (pc' := 685) cx dL_law_684 rfl rfl ?_
  refine gk_iconst (pc' := 686) cx 3 dL_law_685 rfl rfl ?_
  refine gk_iadd (pc' := 687) cx dL_law_686 rfl ?_
  refine gk_val (w := .int (nI (i + 3))) (congrArg Value.int (nI_add i 3)) ?_
  refine gk_sld (pc' := 688) cx hX hbl hbA hL (k := i + 3) (by omega) dL_law_687 rfl ?_
  refine gk_aload_n (pc' := 689) cx dL_law_688 rfl rfl ?_
  refine gk_iload_n (pc' := 690) cx dL_law_689 rfl rfl ?_
  refine gk_iconst (pc' := 691) cx 4 dL_law_690 rfl rfl ?_
  refine gk_iadd (pc' := 692) cx dL_law_691 rfl ?_
  refine gk_val (w := .int (nI (i + 4))) (congrArg Value.int (nI_add i 4)) ?_
  refine gk_sld (pc' := 693) cx hX hbl hbA hL (k := i + 4) (by omega) dL_law_692 rfl ?_
  refine gk_cVI (pc' := 696) cx (Nat.le_of_ble_eq_true rfl) (c_X5_seen_5 l E h.xp h.shx (xs (i + 1)) (xs (i + 2)) (xs (i + 4))) mX5_seen lL_89 dL_law_693 kq0 (ltn rfl) (ltn rfl) rfl rfl (by rw [hx]; rfl) ⟨(Nat.le_of_ble_eq_true rfl), (Nat.le_of_ble_eq_true rfl)⟩ (Nat.le_of_ble_eq_true rfl) rfl ⟨(Nat.le_of_ble_eq_true rfl), (Nat.le_of_ble_eq_true rfl)⟩ (fun x1 g1 h1 => ?_)
  obtain ⟨p1, k1⟩ := st_seen h (xs (i + 1)) (xs (i + 2)) (xs (i + 4)) (k := 5) (by omega) h1
  refine gk_aload_n (pc' := 697) cx dL_law_696 rfl rfl ?_
  refine gk_aload_n (pc' := 698) cx dL_law_697 rfl rfl ?_
  refine gk_iload_n (pc' := 699) cx dL_law_698 rfl rfl ?_
  refine gk_iconst (pc' := 700) cx 1 dL_law_699 rfl rfl ?_
  refine gk_iadd (pc' := 701) cx dL_law_700 rfl ?_
  refine gk_val (w := .int (nI (i + 1))) (congrArg Value.int (nI_add i 1)) ?_
  refine gk_sld (pc' := 702) cx hX hbl hbA hL (k := i + 1) (by omega) dL_law_701 rfl ?_
  refine gk_aload_n (pc' := 703) cx dL_law_702 rfl rfl ?_
  refine gk_iload_n (pc' := 704) cx dL_law_703 rfl rfl ?_
  refine gk_iconst (pc' := 705) cx 2 dL_law_704 rfl rfl ?_
  refine gk_iadd (pc' := 706) cx dL_law_705 rfl ?_
  refine gk_val (w := .int (nI (i + 2))) (congrArg Value.int (nI_add i 2)) ?_
  refine gk_sld (pc' := 707) cx hX hbl hbA hL (k := i + 2) (by omega) dL_law_706 rfl ?_
  refine gk_aload_n (pc' := 708) cx dL_law_707 rfl rfl ?_
  refine gk_iload_n (pc' := 709) cx dL_law_708 rfl rfl ?_
  refine gk_iconst (pc' := 710) cx 3 dL_law_709 rfl rfl ?_
  refine gk_iadd (pc' := 711) cx dL_law_710 rfl ?_
  refine gk_val (w := .int (nI (i + 3))) (congrArg Value.int (nI_add i 3)) ?_
  refine gk_sld (pc' := 712) cx hX hbl hbA hL (k := i + 3) (by omega) dL_law_711 rfl ?_
  refine gk_aload_n (pc' := 713) cx dL_law_712 rfl rfl ?_
  refine gk_iload_n (pc' := 714) cx dL_law_713 rfl rfl ?_
  refine gk_iconst (pc' := 715) cx 4 dL_law_714 rfl rfl ?_
  refine gk_iadd (pc' := 716) cx dL_law_715 rfl ?_
  refine gk_val (w := .int (nI (i + 4))) (congrArg Value.int (nI_add i 4)) ?_
  refine gk_sld (pc' := 717) cx hX hbl hbA hL (k := i + 4) (by omega) dL_law_716 rfl ?_
  refine gk_cVIz (pc' := 720) cx (Nat.le_of_ble_eq_true rfl) (c_X6_seen_5 l E p1.1 p1.2 (xs (i + 1)) (xs (i + 2)) (xs (i + 4))) mX6_seen lL_93 dL_law_717 kq88 (ltn rfl) (ltn rfl) rfl rfl (by rw [hx]; rfl) ⟨(Nat.le_of_ble_eq_true rfl), (Nat.le_of_ble_eq_true rfl)⟩ (Nat.le_of_ble_eq_true rfl) rfl ⟨(Nat.le_of_ble_eq_true rfl), (Nat.le_of_ble_eq_true rfl)⟩ (fun x2 g2 z2 h2 => ?_)
  obtain ⟨e9, i9⟩ := k1 _ _ h2
  refine gk_icmp_eq (pc' := 723) cx 1119 dL_law_720 rfl rfl (fun _ => kk _ _ _ i9) (fun hh => absurd e9 hh)
set_option maxHeartbeats 2000000 in
set_option maxRecDepth 20000 in
theorem law_18n {p : Program} {l : Launch} {e : Env} {s : State} {m : MethodId} {below : List Frame} {meth : Method} {c : Code} {E : Ev} {rt0 : Option FieldType} {b L : Nat} {xs : Nat → Int32} (cx : Cx p s m #[Value.ref b] meth c E 115 cL_law 4 RL rt0) (hX : va_X b L xs s s.heap) (hbl : b < s.heap.size) (hbA : ¬ Ad E 115 b) (hL : L ≤ 3072) {i : Nat} (hi : i + 6 ≤ L) (kk : ∀ (g : IG) (o : Option Nat) (z : Int64), InvE g → GoK p l e room_1 s m #[Value.ref b] below meth c E 115 4 115 26025 (lw_Z below #[Value.ref b] s) g (RFo o) z 1119 [(3, .int (nI i)), (2, .ref (E.2.1 88)), (1, .ref (E.2.1 0)), (0, .ref b)] []) {g : IG} {o : Option Nat} {z : Int64} {hn vn ru tc : Nat} {CS : CSt} (h : Inv g g hn vn ru tc CS) (hx : inX 0 5 (xs (i + 3)) = 0) : GoK p l e room_1 s m #[Value.ref b] below meth c E 115 4 115 26025 (lw_Z below #[Value.ref b] s) g (RFo o) z 672 [(3, .int (nI i)), (2, .ref (E.2.1 88)), (1, .ref (E.2.1 0)), (0, .ref b)] [] := by
  have e9 : (-2 : Int32) = -2 := rfl
  have i9 : InvE g := ⟨_, _, _, _, _, h⟩
  refine gk_aload_n (pc' := 673) cx dL_law_672 rfl rfl ?_
  refine gk_aload_n (pc' := 674) cx dL_law_673 rfl rfl ?_
  refine gk_iload_n (pc' := 675) cx dL_law_674 rfl rfl ?_
  refine gk_iconst (pc' := 676) cx 1 dL_law_675 rfl rfl ?_
  refine gk_iadd (pc' := 677) cx dL_law_676 rfl ?_
  refine gk_val (w := .int (nI (i + 1))) (congrArg Value.int (nI_add i 1)) ?_
  refine gk_sld (pc' := 678) cx hX hbl hbA hL (k := i + 1) (by omega) dL_law_677 rfl ?_
  refine gk_aload_n (pc' := 679) cx dL_law_678 rfl rfl ?_
  refine gk_iload_n (pc' := 680) cx dL_law_679 rfl rfl ?_
  refine gk_iconst (pc' := 681) cx 2 dL_law_680 rfl rfl ?_
  refine gk_iadd (pc' := 682) cx dL_law_681 rfl ?_
  refine gk_val (w := .int (nI (i + 2))) (congrArg Value.int (nI_add i 2)) ?_
  refine gk_sld (pc' := 683) cx hX hbl hbA hL (k := i + 2) (by omega) dL_law_682 rfl ?_
  refine gk_aload_n (pc' := 684) cx dL_law_683 rfl rfl ?_
  refine gk_iload_n (pc' := 685) cx dL_law_684 rfl rfl ?_
  refine gk_iconst (pc' := 686) cx 3 dL_law_685 rfl rfl ?_
  refine gk_iadd (pc' := 687) cx dL_law_686 rfl ?_
  refine gk_val (w := .int (nI (i + 3))) (congrArg Value.int (nI_add i 3)) ?_
  refine gk_sld (pc' := 688) cx hX hbl hbA hL (k := i + 3) (by omega) dL_law_687 rfl ?_
  refine gk_aload_n (pc' := 689) cx dL_law_688 rfl rfl ?_
  refine gk_iload_n (pc' := 690) cx dL_law_689 rfl rfl ?_
  refine gk_iconst (pc' := 691) cx 4 dL_law_690 rfl rfl ?_
  refine gk_iadd (pc' := 692) cx dL_law_691 rfl ?_
  refine gk_val (w := .int (nI (i + 4))) (congrArg Value.int (nI_add i 4)) ?_
  refine gk_sld (pc' := 693) cx hX hbl hbA hL (k := i + 4) (by omega) dL_law_692 rfl ?_
  refine gk_cVi (pc' := 696) cx (Nat.le_of_ble_eq_true rfl) (c_X5_seen_n l E h.xp (xs (i + 1)) (xs (i + 2)) (xs (i + 3)) (xs (i + 4)) ((inX_ps hx).imp id (fun q9 => q9.2))) mX5_seen lL_89 dL_law_693 kq0 (ltn rfl) (ltn rfl) rfl rfl rfl ⟨(Nat.le_of_ble_eq_true rfl), (Nat.le_of_ble_eq_true rfl)⟩ (Nat.le_of_ble_eq_true rfl) rfl ⟨(Nat.le_of_ble_eq_true rfl), (Nat.le_of_ble_eq_true rfl)⟩ ?_
  refine gk_aload_n (pc' := 697) cx dL_law_696 rfl rfl ?_
  refine gk_aload_n (pc' := 698) cx dL_law_697 rfl rfl ?_
  refine gk_iload_n (pc' := 699) cx dL_law_698 rfl rfl ?_
  refine gk_iconst (pc' := 700) cx 1 dL_law_699 rfl rfl ?_
  refine gk_iadd (pc' := 701) cx dL_law_700 rfl ?_
  refine gk_val (w := .int (nI (i + 1))) (congrArg Value.int (nI_add i 1)) ?_
  refine gk_sld (pc' := 702) cx hX hbl hbA hL (k := i + 1) (by omega) dL_law_701 rfl ?_
  refine gk_aload_n (pc' := 703) cx dL_law_702 rfl rfl ?_
  refine gk_iload_n (pc' := 704) cx dL_law_703 rfl rfl ?_
  refine gk_iconst (pc' := 705) cx 2 dL_law_704 rfl rfl ?_
  refine gk_iadd (pc' := 706) cx dL_law_705 rfl ?_
  refine gk_val (w := .int (nI (i + 2))) (congrArg Value.int (nI_add i 2)) ?_
  refine gk_sld (pc' := 707) cx hX hbl hbA hL (k := i + 2) (by omega) dL_law_706 rfl ?_
  refine gk_aload_n (pc' := 708) cx dL_law_707 rfl rfl ?_
  refine gk_iload_n (pc' := 709) cx dL_law_708 rfl rfl ?_
  refine gk_iconst (pc' := 710) cx 3 dL_law_709 rfl rfl ?_
  refine gk_iadd (pc' := 711) cx dL_law_710 rfl ?_
  refine gk_val (w := .int (nI (i + 3))) (congrArg Value.int (nI_add i 3)) ?_
  refine gk_sld (pc' := 712) cx hX hbl hbA hL (k := i + 3) (by omega) dL_law_711 rfl ?_
  refine gk_aload_n (pc' := 713) cx dL_law_712 rfl rfl ?_
  refine gk_iload_n (pc' := 714) cx dL_law_713 rfl rfl ?_
  refine gk_iconst (pc' := 715) cx 4 dL_law_714 rfl rfl ?_
  refine gk_iadd (pc' := 716) cx dL_law_715 rfl ?_
  refine gk_val (w := .int (nI (i + 4))) (congrArg Value.int (nI_add i 4)) ?_
  refine gk_sld (pc' := 717) cx hX hbl hbA hL (k := i + 4) (by omega) dL_law_716 rfl ?_
  refine gk_cVi (pc' := 720) cx (Nat.le_of_ble_eq_true rfl) (c_X6_seen_n l E h.xm (xs (i + 1)) (xs (i + 2)) (xs (i + 3)) (xs (i + 4)) hx) mX6_seen lL_93 dL_law_717 kq88 (ltn rfl) (ltn rfl) rfl rfl rfl ⟨(Nat.le_of_ble_eq_true rfl), (Nat.le_of_ble_eq_true rfl)⟩ (Nat.le_of_ble_eq_true rfl) rfl ⟨(Nat.le_of_ble_eq_true rfl), (Nat.le_of_ble_eq_true rfl)⟩ ?_
  refine gk_icmp_eq (pc' := 723) cx 1119 dL_law_720 rfl rfl (fun _ => kk _ _ _ i9) (fun hh => absurd e9 hh)
set_option maxHeartbeats 2000000 in
set_option maxRecDepth 20000 in
theorem law_19 {p : Program} {l : Launch} {e : Env} {s : State} {m : MethodId} {below : List Frame} {meth : Method} {c : Code} {E : Ev} {rt0 : Option FieldType} {b L : Nat} {xs : Nat → Int32} (cx : Cx p s m #[Value.ref b] meth c E 115 cL_law 4 RL rt0) (hX : va_X b L xs s s.heap) (hbl : b < s.heap.size) (hbA : ¬ Ad E 115 b) (hL : L ≤ 3072) {i : Nat} (hi : i + 6 ≤ L) (kk : ∀ (g : IG) (o : Option Nat) (z : Int64), InvE g → GoK p l e room_1 s m #[Value.ref b] below meth c E 115 4 115 26025 (lw_Z below #[Value.ref b] s) g (RFo o) z 1119 [(3, .int (nI i)), (2, .ref (E.2.1 88)), (1, .ref (E.2.1 0)), (0, .ref b)] []) {g : IG} {o : Option Nat} {z : Int64} {hn vn ru tc : Nat} {CS : CSt} (h : Inv g g hn vn ru tc CS)  : GoK p l e room_1 s m #[Value.ref b] below meth c E 115 4 115 26025 (lw_Z below #[Value.ref b] s) g (RFo o) z 725 [(3, .int (nI i)), (2, .ref (E.2.1 88)), (1, .ref (E.2.1 0)), (0, .ref b)] [] := by
  refine gk_aload_n (pc' := 726) cx dL_law_725 rfl rfl ?_
  refine gk_aload_n (pc' := 727) cx dL_law_726 rfl rfl ?_
  refine gk_iload_n (pc' := 728) cx dL_law_727 rfl rfl ?_
  refine gk_iconst (pc' := 729) cx 1 dL_law_728 rfl rfl ?_
  refine gk_iadd (pc' := 730) cx dL_law_729 rfl ?_
  refine gk_val (w := .int (nI (i + 1))) (congrArg Value.int (nI_add i 1)) ?_
  refine gk_sld (pc' := 731) cx hX hbl hbA hL (k := i + 1) (by omega) dL_law_730 rfl ?_
  refine gk_aload_n (pc' := 732) cx dL_law_731 rfl rfl ?_
  refine gk_iload_n (pc' := 733) cx dL_law_732 rfl rfl ?_
  refine gk_iconst (pc' := 734) cx 2 dL_law_733 rfl rfl ?_
  refine gk_iadd (pc' := 735) cx dL_law_734 rfl ?_
  refine gk_val (w := .int (nI (i + 2))) (congrArg Value.int (nI_add i 2)) ?_
  refine gk_sld (pc' := 736) cx hX hbl hbA hL (k := i + 2) (by omega) dL_law_735 rfl ?_
  refine gk_aload_n (pc' := 737) cx dL_law_736 rfl rfl ?_
  refine gk_iload_n (pc' := 738) cx dL_law_737 rfl rfl ?_
  refine gk_iconst (pc' := 739) cx 3 dL_law_738 rfl rfl ?_
  refine gk_iadd (pc' := 740) cx dL_law_739 rfl ?_
  refine gk_val (w := .int (nI (i + 3))) (congrArg Value.int (nI_add i 3)) ?_
  refine gk_sld (pc' := 741) cx hX hbl hbA hL (k := i + 3) (by omega) dL_law_740 rfl ?_
  refine gk_cVI (pc' := 744) cx (Nat.le_of_ble_eq_true rfl) (c_X5_film l E h.xp (xs (i + 1)) (xs (i + 2)) (xs (i + 3))) mX5_film lL_94 dL_law_741 kq0 (ltn rfl) (ltn rfl) rfl rfl rfl ⟨(Nat.le_of_ble_eq_true rfl), (Nat.le_of_ble_eq_true rfl)⟩ (Nat.le_of_ble_eq_true rfl) rfl ⟨(Nat.le_of_ble_eq_true rfl), (Nat.le_of_ble_eq_true rfl)⟩ (fun x1 g1 h1 => ?_)
  obtain ⟨p1, k1⟩ := st_film h (xs (i + 1)) (xs (i + 2)) (xs (i + 3)) h1
  refine gk_aload_n (pc' := 745) cx dL_law_744 rfl rfl ?_
  refine gk_aload_n (pc' := 746) cx dL_law_745 rfl rfl ?_
  refine gk_iload_n (pc' := 747) cx dL_law_746 rfl rfl ?_
  refine gk_iconst (pc' := 748) cx 1 dL_law_747 rfl rfl ?_
  refine gk_iadd (pc' := 749) cx dL_law_748 rfl ?_
  refine gk_val (w := .int (nI (i + 1))) (congrArg Value.int (nI_add i 1)) ?_
  refine gk_sld (pc' := 750) cx hX hbl hbA hL (k := i + 1) (by omega) dL_law_749 rfl ?_
  refine gk_aload_n (pc' := 751) cx dL_law_750 rfl rfl ?_
  refine gk_iload_n (pc' := 752) cx dL_law_751 rfl rfl ?_
  refine gk_iconst (pc' := 753) cx 2 dL_law_752 rfl rfl ?_
  refine gk_iadd (pc' := 754) cx dL_law_753 rfl ?_
  refine gk_val (w := .int (nI (i + 2))) (congrArg Value.int (nI_add i 2)) ?_
  refine gk_sld (pc' := 755) cx hX hbl hbA hL (k := i + 2) (by omega) dL_law_754 rfl ?_
  refine gk_aload_n (pc' := 756) cx dL_law_755 rfl rfl ?_
  refine gk_iload_n (pc' := 757) cx dL_law_756 rfl rfl ?_
  refine gk_iconst (pc' := 758) cx 3 dL_law_757 rfl rfl ?_
  refine gk_iadd (pc' := 759) cx dL_law_758 rfl ?_
  refine gk_val (w := .int (nI (i + 3))) (congrArg Value.int (nI_add i 3)) ?_
  refine gk_sld (pc' := 760) cx hX hbl hbA hL (k := i + 3) (by omega) dL_law_759 rfl ?_
  refine gk_cVIz (pc' := 763) cx (Nat.le_of_ble_eq_true rfl) (c_X6_film l E p1 (xs (i + 1)) (xs (i + 2)) (xs (i + 3))) mX6_film lL_97 dL_law_760 kq88 (ltn rfl) (ltn rfl) rfl rfl rfl ⟨(Nat.le_of_ble_eq_true rfl), (Nat.le_of_ble_eq_true rfl)⟩ (Nat.le_of_ble_eq_true rfl) rfl ⟨(Nat.le_of_ble_eq_true rfl), (Nat.le_of_ble_eq_true rfl)⟩ (fun x2 g2 z2 h2 => ?_)
  obtain ⟨e9, i9⟩ := k1 _ _ h2
  refine gk_icmp_eq (pc' := 766) cx 1119 dL_law_763 rfl rfl (fun _ => kk _ _ _ i9) (fun hh => absurd e9 hh)
set_option maxHeartbeats 2000000 in
set_option maxRecDepth 20000 in
theorem law_20 {p : Program} {l : Launch} {e : Env} {s : State} {m : MethodId} {below : List Frame} {meth : Method} {c : Code} {E : Ev} {rt0 : Option FieldType} {b L : Nat} {xs : Nat → Int32} (cx : Cx p s m #[Value.ref b] meth c E 115 cL_law 4 RL rt0) (hX : va_X b L xs s s.heap) (hbl : b < s.heap.size) (hbA : ¬ Ad E 115 b) (hL : L ≤ 3072) {i : Nat} (hi : i + 6 ≤ L) (kk : ∀ (g : IG) (o : Option Nat) (z : Int64), InvE g → GoK p l e room_1 s m #[Value.ref b] below meth c E 115 4 115 26025 (lw_Z below #[Value.ref b] s) g (RFo o) z 1119 [(3, .int (nI i)), (2, .ref (E.2.1 88)), (1, .ref (E.2.1 0)), (0, .ref b)] []) {g : IG} {o : Option Nat} {z : Int64} {hn vn ru tc : Nat} {CS : CSt} (h : Inv g g hn vn ru tc CS)  : GoK p l e room_1 s m #[Value.ref b] below meth c E 115 4 115 26025 (lw_Z below #[Value.ref b] s) g (RFo o) z 768 [(3, .int (nI i)), (2, .ref (E.2.1 88)), (1, .ref (E.2.1 0)), (0, .ref b)] [] := by
  refine gk_aload_n (pc' := 769) cx dL_law_768 rfl rfl ?_
  refine gk_aload_n (pc' := 770) cx dL_law_769 rfl rfl ?_
  refine gk_iload_n (pc' := 771) cx dL_law_770 rfl rfl ?_
  refine gk_iconst (pc' := 772) cx 1 dL_law_771 rfl rfl ?_
  refine gk_iadd (pc' := 773) cx dL_law_772 rfl ?_
  refine gk_val (w := .int (nI (i + 1))) (congrArg Value.int (nI_add i 1)) ?_
  refine gk_sld (pc' := 774) cx hX hbl hbA hL (k := i + 1) (by omega) dL_law_773 rfl ?_
  refine gk_cVI (pc' := 777) cx (Nat.le_of_ble_eq_true rfl) (c_X5_drawn l E h.xp (xs (i + 1))) mX5_drawn lL_98 dL_law_774 kq0 (ltn rfl) (ltn rfl) rfl rfl rfl ⟨(Nat.le_of_ble_eq_true rfl), (Nat.le_of_ble_eq_true rfl)⟩ (Nat.le_of_ble_eq_true rfl) rfl ⟨(Nat.le_of_ble_eq_true rfl), (Nat.le_of_ble_eq_true rfl)⟩ (fun x1 g1 h1 => ?_)
  obtain ⟨p1, k1⟩ := st_drawn h (xs (i + 1)) h1
  refine gk_aload_n (pc' := 778) cx dL_law_777 rfl rfl ?_
  refine gk_aload_n (pc' := 779) cx dL_law_778 rfl rfl ?_
  refine gk_iload_n (pc' := 780) cx dL_law_779 rfl rfl ?_
  refine gk_iconst (pc' := 781) cx 1 dL_law_780 rfl rfl ?_
  refine gk_iadd (pc' := 782) cx dL_law_781 rfl ?_
  refine gk_val (w := .int (nI (i + 1))) (congrArg Value.int (nI_add i 1)) ?_
  refine gk_sld (pc' := 783) cx hX hbl hbA hL (k := i + 1) (by omega) dL_law_782 rfl ?_
  refine gk_cVIz (pc' := 786) cx (Nat.le_of_ble_eq_true rfl) (c_X6_drawn l E p1 (xs (i + 1))) mX6_drawn lL_101 dL_law_783 kq88 (ltn rfl) (ltn rfl) rfl rfl rfl ⟨(Nat.le_of_ble_eq_true rfl), (Nat.le_of_ble_eq_true rfl)⟩ (Nat.le_of_ble_eq_true rfl) rfl ⟨(Nat.le_of_ble_eq_true rfl), (Nat.le_of_ble_eq_true rfl)⟩ (fun x2 g2 z2 h2 => ?_)
  obtain ⟨e9, i9⟩ := k1 _ _ h2
  refine gk_icmp_eq (pc' := 789) cx 1119 dL_law_786 rfl rfl (fun _ => kk _ _ _ i9) (fun hh => absurd e9 hh)
set_option maxHeartbeats 2000000 in
set_option maxRecDepth 20000 in
theorem law_21 {p : Program} {l : Launch} {e : Env} {s : State} {m : MethodId} {below : List Frame} {meth : Method} {c : Code} {E : Ev} {rt0 : Option FieldType} {b L : Nat} {xs : Nat → Int32} (cx : Cx p s m #[Value.ref b] meth c E 115 cL_law 4 RL rt0) (hX : va_X b L xs s s.heap) (hbl : b < s.heap.size) (hbA : ¬ Ad E 115 b) (hL : L ≤ 3072) {i : Nat} (hi : i + 6 ≤ L) (kk : ∀ (g : IG) (o : Option Nat) (z : Int64), InvE g → GoK p l e room_1 s m #[Value.ref b] below meth c E 115 4 115 26025 (lw_Z below #[Value.ref b] s) g (RFo o) z 1119 [(3, .int (nI i)), (2, .ref (E.2.1 88)), (1, .ref (E.2.1 0)), (0, .ref b)] []) {g : IG} {o : Option Nat} {z : Int64} {hn vn ru tc : Nat} {CS : CSt} (h : Inv g g hn vn ru tc CS)  : GoK p l e room_1 s m #[Value.ref b] below meth c E 115 4 115 26025 (lw_Z below #[Value.ref b] s) g (RFo o) z 791 [(3, .int (nI i)), (2, .ref (E.2.1 88)), (1, .ref (E.2.1 0)), (0, .ref b)] [] := by
  refine gk_aload_n (pc' := 792) cx dL_law_791 rfl rfl ?_
  refine gk_aload_n (pc' := 793) cx dL_law_792 rfl rfl ?_
  refine gk_iload_n (pc' := 794) cx dL_law_793 rfl rfl ?_
  refine gk_iconst (pc' := 795) cx 1 dL_law_794 rfl rfl ?_
  refine gk_iadd (pc' := 796) cx dL_law_795 rfl ?_
  refine gk_val (w := .int (nI (i + 1))) (congrArg Value.int (nI_add i 1)) ?_
  refine gk_sld (pc' := 797) cx hX hbl hbA hL (k := i + 1) (by omega) dL_law_796 rfl ?_
  refine gk_aload_n (pc' := 798) cx dL_law_797 rfl rfl ?_
  refine gk_iload_n (pc' := 799) cx dL_law_798 rfl rfl ?_
  refine gk_iconst (pc' := 800) cx 2 dL_law_799 rfl rfl ?_
  refine gk_iadd (pc' := 801) cx dL_law_800 rfl ?_
  refine gk_val (w := .int (nI (i + 2))) (congrArg Value.int (nI_add i 2)) ?_
  refine gk_sld (pc' := 802) cx hX hbl hbA hL (k := i + 2) (by omega) dL_law_801 rfl ?_
  refine gk_aload_n (pc' := 803) cx dL_law_802 rfl rfl ?_
  refine gk_iload_n (pc' := 804) cx dL_law_803 rfl rfl ?_
  refine gk_iconst (pc' := 805) cx 3 dL_law_804 rfl rfl ?_
  refine gk_iadd (pc' := 806) cx dL_law_805 rfl ?_
  refine gk_val (w := .int (nI (i + 3))) (congrArg Value.int (nI_add i 3)) ?_
  refine gk_sld (pc' := 807) cx hX hbl hbA hL (k := i + 3) (by omega) dL_law_806 rfl ?_
  refine gk_cVL (pc' := 810) cx (Nat.le_of_ble_eq_true rfl) (c_X5_chance l E h.xp (xs (i + 1)) (xs (i + 2)) (xs (i + 3))) mX5_chance lL_102 dL_law_807 kq0 (ltn rfl) (ltn rfl) rfl rfl rfl ⟨(Nat.le_of_ble_eq_true rfl), (Nat.le_of_ble_eq_true rfl)⟩ (Nat.le_of_ble_eq_true rfl) rfl ⟨(Nat.le_of_ble_eq_true rfl), (Nat.le_of_ble_eq_true rfl)⟩ (fun x1 g1 h1 => ?_)
  obtain ⟨p1, k1⟩ := st_chance h (xs (i + 1)) (xs (i + 2)) (xs (i + 3)) h1
  refine gk_aload_n (pc' := 811) cx dL_law_810 rfl rfl ?_
  refine gk_aload_n (pc' := 812) cx dL_law_811 rfl rfl ?_
  refine gk_iload_n (pc' := 813) cx dL_law_812 rfl rfl ?_
  refine gk_iconst (pc' := 814) cx 1 dL_law_813 rfl rfl ?_
  refine gk_iadd (pc' := 815) cx dL_law_814 rfl ?_
  refine gk_val (w := .int (nI (i + 1))) (congrArg Value.int (nI_add i 1)) ?_
  refine gk_sld (pc' := 816) cx hX hbl hbA hL (k := i + 1) (by omega) dL_law_815 rfl ?_
  refine gk_aload_n (pc' := 817) cx dL_law_816 rfl rfl ?_
  refine gk_iload_n (pc' := 818) cx dL_law_817 rfl rfl ?_
  refine gk_iconst (pc' := 819) cx 2 dL_law_818 rfl rfl ?_
  refine gk_iadd (pc' := 820) cx dL_law_819 rfl ?_
  refine gk_val (w := .int (nI (i + 2))) (congrArg Value.int (nI_add i 2)) ?_
  refine gk_sld (pc' := 821) cx hX hbl hbA hL (k := i + 2) (by omega) dL_law_820 rfl ?_
  refine gk_aload_n (pc' := 822) cx dL_law_821 rfl rfl ?_
  refine gk_iload_n (pc' := 823) cx dL_law_822 rfl rfl ?_
  refine gk_iconst (pc' := 824) cx 3 dL_law_823 rfl rfl ?_
  refine gk_iadd (pc' := 825) cx dL_law_824 rfl ?_
  refine gk_val (w := .int (nI (i + 3))) (congrArg Value.int (nI_add i 3)) ?_
  refine gk_sld (pc' := 826) cx hX hbl hbA hL (k := i + 3) (by omega) dL_law_825 rfl ?_
  refine gk_cVLz (pc' := 829) cx (Nat.le_of_ble_eq_true rfl) (c_X6_chance l E p1 (xs (i + 1)) (xs (i + 2)) (xs (i + 3))) mX6_chance lL_106 dL_law_826 kq88 (ltn rfl) (ltn rfl) rfl rfl rfl ⟨(Nat.le_of_ble_eq_true rfl), (Nat.le_of_ble_eq_true rfl)⟩ (Nat.le_of_ble_eq_true rfl) rfl ⟨(Nat.le_of_ble_eq_true rfl), (Nat.le_of_ble_eq_true rfl)⟩ (fun x2 g2 z2 h2 => ?_)
  obtain ⟨e9, i9⟩ := k1 _ _ h2
  refine gk_lcmp (pc' := 830) cx dL_law_829 rfl ?_
  refine gk_if_eq (pc' := 833) cx 1119 dL_law_830 rfl rfl (fun _ => kk _ _ _ i9) (fun hh => absurd (lgc_z e9) hh)
set_option maxHeartbeats 2000000 in
set_option maxRecDepth 20000 in
theorem law_22 {p : Program} {l : Launch} {e : Env} {s : State} {m : MethodId} {below : List Frame} {meth : Method} {c : Code} {E : Ev} {rt0 : Option FieldType} {b L : Nat} {xs : Nat → Int32} (cx : Cx p s m #[Value.ref b] meth c E 115 cL_law 4 RL rt0) (hX : va_X b L xs s s.heap) (hbl : b < s.heap.size) (hbA : ¬ Ad E 115 b) (hL : L ≤ 3072) {i : Nat} (hi : i + 6 ≤ L) (kk : ∀ (g : IG) (o : Option Nat) (z : Int64), InvE g → GoK p l e room_1 s m #[Value.ref b] below meth c E 115 4 115 26025 (lw_Z below #[Value.ref b] s) g (RFo o) z 1119 [(3, .int (nI i)), (2, .ref (E.2.1 88)), (1, .ref (E.2.1 0)), (0, .ref b)] []) {g : IG} {o : Option Nat} {z : Int64} {hn vn ru tc : Nat} {CS : CSt} (h : Inv g g hn vn ru tc CS)  : GoK p l e room_1 s m #[Value.ref b] below meth c E 115 4 115 26025 (lw_Z below #[Value.ref b] s) g (RFo o) z 835 [(3, .int (nI i)), (2, .ref (E.2.1 88)), (1, .ref (E.2.1 0)), (0, .ref b)] [] := by
  refine gk_aload_n (pc' := 836) cx dL_law_835 rfl rfl ?_
  refine gk_cVi (pc' := 839) cx (Nat.le_of_ble_eq_true rfl) (c_X5_image l E h.xp) mX5_image lL_107 dL_law_836 kq0 (ltn rfl) (ltn rfl) rfl rfl rfl ⟨(Nat.le_of_ble_eq_true rfl), (Nat.le_of_ble_eq_true rfl)⟩ (Nat.le_of_ble_eq_true rfl) rfl ⟨(Nat.le_of_ble_eq_true rfl), (Nat.le_of_ble_eq_true rfl)⟩ ?_
  refine gk_aload_n (pc' := 840) cx dL_law_839 rfl rfl ?_
  refine gk_cVI (pc' := 843) cx (Nat.le_of_ble_eq_true rfl) (c_X6_image l E) mX6_image lL_110 dL_law_840 kq88 (ltn rfl) (ltn rfl) rfl rfl rfl ⟨(Nat.le_of_ble_eq_true rfl), (Nat.le_of_ble_eq_true rfl)⟩ (Nat.le_of_ble_eq_true rfl) rfl ⟨(Nat.le_of_ble_eq_true rfl), (Nat.le_of_ble_eq_true rfl)⟩ (fun x2 g2 h2 => ?_)
  obtain ⟨e9, i9⟩ := st_image h rfl h2
  refine gk_icmp_eq (pc' := 846) cx 1119 dL_law_843 rfl rfl (fun _ => kk _ _ _ i9) (fun hh => absurd e9 hh)
set_option maxHeartbeats 2000000 in
set_option maxRecDepth 20000 in
theorem law_23 {p : Program} {l : Launch} {e : Env} {s : State} {m : MethodId} {below : List Frame} {meth : Method} {c : Code} {E : Ev} {rt0 : Option FieldType} {b L : Nat} {xs : Nat → Int32} (cx : Cx p s m #[Value.ref b] meth c E 115 cL_law 4 RL rt0) (hX : va_X b L xs s s.heap) (hbl : b < s.heap.size) (hbA : ¬ Ad E 115 b) (hL : L ≤ 3072) {i : Nat} (hi : i + 6 ≤ L) (kk : ∀ (g : IG) (o : Option Nat) (z : Int64), InvE g → GoK p l e room_1 s m #[Value.ref b] below meth c E 115 4 115 26025 (lw_Z below #[Value.ref b] s) g (RFo o) z 1119 [(3, .int (nI i)), (2, .ref (E.2.1 88)), (1, .ref (E.2.1 0)), (0, .ref b)] []) {g : IG} {o : Option Nat} {z : Int64} {hn vn ru tc : Nat} {CS : CSt} (h : Inv g g hn vn ru tc CS)  : GoK p l e room_1 s m #[Value.ref b] below meth c E 115 4 115 26025 (lw_Z below #[Value.ref b] s) g (RFo o) z 848 [(3, .int (nI i)), (2, .ref (E.2.1 88)), (1, .ref (E.2.1 0)), (0, .ref b)] [] := by
  refine gk_aload_n (pc' := 849) cx dL_law_848 rfl rfl ?_
  refine gk_cVI (pc' := 852) cx (Nat.le_of_ble_eq_true rfl) (c_X5_back l E h.xp) mX5_back lL_111 dL_law_849 kq0 (ltn rfl) (ltn rfl) rfl rfl rfl ⟨(Nat.le_of_ble_eq_true rfl), (Nat.le_of_ble_eq_true rfl)⟩ (Nat.le_of_ble_eq_true rfl) rfl ⟨(Nat.le_of_ble_eq_true rfl), (Nat.le_of_ble_eq_true rfl)⟩ (fun x1 g1 h1 => ?_)
  refine gk_aload_n (pc' := 853) cx dL_law_852 rfl rfl ?_
  refine gk_cVI (pc' := 856) cx (Nat.le_of_ble_eq_true rfl) (c_X6_back l E) mX6_back lL_114 dL_law_853 kq88 (ltn rfl) (ltn rfl) rfl rfl rfl ⟨(Nat.le_of_ble_eq_true rfl), (Nat.le_of_ble_eq_true rfl)⟩ (Nat.le_of_ble_eq_true rfl) rfl ⟨(Nat.le_of_ble_eq_true rfl), (Nat.le_of_ble_eq_true rfl)⟩ (fun x2 g2 h2 => ?_)
  obtain ⟨e9, i9⟩ := st_back h h1 h2
  refine gk_icmp_eq (pc' := 859) cx 1119 dL_law_856 rfl rfl (fun _ => kk _ _ _ i9) (fun hh => absurd e9 hh)
set_option maxHeartbeats 2000000 in
set_option maxRecDepth 20000 in
theorem law_24 {p : Program} {l : Launch} {e : Env} {s : State} {m : MethodId} {below : List Frame} {meth : Method} {c : Code} {E : Ev} {rt0 : Option FieldType} {b L : Nat} {xs : Nat → Int32} (cx : Cx p s m #[Value.ref b] meth c E 115 cL_law 4 RL rt0) (hX : va_X b L xs s s.heap) (hbl : b < s.heap.size) (hbA : ¬ Ad E 115 b) (hL : L ≤ 3072) {i : Nat} (hi : i + 6 ≤ L) (kk : ∀ (g : IG) (o : Option Nat) (z : Int64), InvE g → GoK p l e room_1 s m #[Value.ref b] below meth c E 115 4 115 26025 (lw_Z below #[Value.ref b] s) g (RFo o) z 1119 [(3, .int (nI i)), (2, .ref (E.2.1 88)), (1, .ref (E.2.1 0)), (0, .ref b)] []) {g : IG} {o : Option Nat} {z : Int64} {hn vn ru tc : Nat} {CS : CSt} (h : Inv g g hn vn ru tc CS)  : GoK p l e room_1 s m #[Value.ref b] below meth c E 115 4 115 26025 (lw_Z below #[Value.ref b] s) g (RFo o) z 861 [(3, .int (nI i)), (2, .ref (E.2.1 88)), (1, .ref (E.2.1 0)), (0, .ref b)] [] := by
  have e9 := st_count h (xs (i + 1))
  have i9 : InvE g := ⟨_, _, _, _, _, h⟩
  refine gk_aload_n (pc' := 862) cx dL_law_861 rfl rfl ?_
  refine gk_aload_n (pc' := 863) cx dL_law_862 rfl rfl ?_
  refine gk_iload_n (pc' := 864) cx dL_law_863 rfl rfl ?_
  refine gk_iconst (pc' := 865) cx 1 dL_law_864 rfl rfl ?_
  refine gk_iadd (pc' := 866) cx dL_law_865 rfl ?_
  refine gk_val (w := .int (nI (i + 1))) (congrArg Value.int (nI_add i 1)) ?_
  refine gk_sld (pc' := 867) cx hX hbl hbA hL (k := i + 1) (by omega) dL_law_866 rfl ?_
  refine gk_cVi (pc' := 870) cx (Nat.le_of_ble_eq_true rfl) (c_X5_count l E (xs (i + 1))) mX5_count lL_115 dL_law_867 kq0 (ltn rfl) (ltn rfl) rfl rfl rfl ⟨(Nat.le_of_ble_eq_true rfl), (Nat.le_of_ble_eq_true rfl)⟩ (Nat.le_of_ble_eq_true rfl) rfl ⟨(Nat.le_of_ble_eq_true rfl), (Nat.le_of_ble_eq_true rfl)⟩ ?_
  refine gk_aload_n (pc' := 871) cx dL_law_870 rfl rfl ?_
  refine gk_aload_n (pc' := 872) cx dL_law_871 rfl rfl ?_
  refine gk_iload_n (pc' := 873) cx dL_law_872 rfl rfl ?_
  refine gk_iconst (pc' := 874) cx 1 dL_law_873 rfl rfl ?_
  refine gk_iadd (pc' := 875) cx dL_law_874 rfl ?_
  refine gk_val (w := .int (nI (i + 1))) (congrArg Value.int (nI_add i 1)) ?_
  refine gk_sld (pc' := 876) cx hX hbl hbA hL (k := i + 1) (by omega) dL_law_875 rfl ?_
  refine gk_cVi (pc' := 879) cx (Nat.le_of_ble_eq_true rfl) (c_X6_count l E (xs (i + 1))) mX6_count lL_118 dL_law_876 kq88 (ltn rfl) (ltn rfl) rfl rfl rfl ⟨(Nat.le_of_ble_eq_true rfl), (Nat.le_of_ble_eq_true rfl)⟩ (Nat.le_of_ble_eq_true rfl) rfl ⟨(Nat.le_of_ble_eq_true rfl), (Nat.le_of_ble_eq_true rfl)⟩ ?_
  refine gk_icmp_eq (pc' := 882) cx 1119 dL_law_879 rfl rfl (fun _ => kk _ _ _ i9) (fun hh => absurd e9 hh)
set_option maxHeartbeats 2000000 in
set_option maxRecDepth 20000 in
theorem law_25 {p : Program} {l : Launch} {e : Env} {s : State} {m : MethodId} {below : List Frame} {meth : Method} {c : Code} {E : Ev} {rt0 : Option FieldType} {b L : Nat} {xs : Nat → Int32} (cx : Cx p s m #[Value.ref b] meth c E 115 cL_law 4 RL rt0) (hX : va_X b L xs s s.heap) (hbl : b < s.heap.size) (hbA : ¬ Ad E 115 b) (hL : L ≤ 3072) {i : Nat} (hi : i + 6 ≤ L) (kk : ∀ (g : IG) (o : Option Nat) (z : Int64), InvE g → GoK p l e room_1 s m #[Value.ref b] below meth c E 115 4 115 26025 (lw_Z below #[Value.ref b] s) g (RFo o) z 1119 [(3, .int (nI i)), (2, .ref (E.2.1 88)), (1, .ref (E.2.1 0)), (0, .ref b)] []) {g : IG} {o : Option Nat} {z : Int64} {hn vn ru tc : Nat} {CS : CSt} (h : Inv g g hn vn ru tc CS)  : GoK p l e room_1 s m #[Value.ref b] below meth c E 115 4 115 26025 (lw_Z below #[Value.ref b] s) g (RFo o) z 884 [(3, .int (nI i)), (2, .ref (E.2.1 88)), (1, .ref (E.2.1 0)), (0, .ref b)] [] := by
  refine gk_aload_n (pc' := 885) cx dL_law_884 rfl rfl ?_
  refine gk_aload_n (pc' := 886) cx dL_law_885 rfl rfl ?_
  refine gk_iload_n (pc' := 887) cx dL_law_886 rfl rfl ?_
  refine gk_iconst (pc' := 888) cx 1 dL_law_887 rfl rfl ?_
  refine gk_iadd (pc' := 889) cx dL_law_888 rfl ?_
  refine gk_val (w := .int (nI (i + 1))) (congrArg Value.int (nI_add i 1)) ?_
  refine gk_sld (pc' := 890) cx hX hbl hbA hL (k := i + 1) (by omega) dL_law_889 rfl ?_
  refine gk_aload_n (pc' := 891) cx dL_law_890 rfl rfl ?_
  refine gk_iload_n (pc' := 892) cx dL_law_891 rfl rfl ?_
  refine gk_iconst (pc' := 893) cx 2 dL_law_892 rfl rfl ?_
  refine gk_iadd (pc' := 894) cx dL_law_893 rfl ?_
  refine gk_val (w := .int (nI (i + 2))) (congrArg Value.int (nI_add i 2)) ?_
  refine gk_sld (pc' := 895) cx hX hbl hbA hL (k := i + 2) (by omega) dL_law_894 rfl ?_
  refine gk_aload_n (pc' := 896) cx dL_law_895 rfl rfl ?_
  refine gk_iload_n (pc' := 897) cx dL_law_896 rfl rfl ?_
  refine gk_iconst (pc' := 898) cx 3 dL_law_897 rfl rfl ?_
  refine gk_iadd (pc' := 899) cx dL_law_898 rfl ?_
  refine gk_val (w := .int (nI (i + 3))) (congrArg Value.int (nI_add i 3)) ?_
  refine gk_sld (pc' := 900) cx hX hbl hbA hL (k := i + 3) (by omega) dL_law_899 rfl ?_
  refine gk_cVI (pc' := 903) cx (Nat.le_of_ble_eq_true rfl) (c_X5_sheet l E (xs (i + 1)) (xs (i + 2)) (xs (i + 3))) mX5_sheet lL_119 dL_law_900 kq0 (ltn rfl) (ltn rfl) rfl rfl rfl ⟨(Nat.le_of_ble_eq_true rfl), (Nat.le_of_ble_eq_true rfl)⟩ (Nat.le_of_ble_eq_true rfl) rfl ⟨(Nat.le_of_ble_eq_true rfl), (Nat.le_of_ble_eq_true rfl)⟩ (fun x1 g1 h1 => ?_)
  refine gk_aload_n (pc' := 904) cx dL_law_903 rfl rfl ?_
  refine gk_aload_n (pc' := 905) cx dL_law_904 rfl rfl ?_
  refine gk_iload_n (pc' := 906) cx dL_law_905 rfl rfl ?_
  refine gk_iconst (pc' := 907) cx 1 dL_law_906 rfl rfl ?_
  refine gk_iadd (pc' := 908) cx dL_law_907 rfl ?_
  refine gk_val (w := .int (nI (i + 1))) (congrArg Value.int (nI_add i 1)) ?_
  refine gk_sld (pc' := 909) cx hX hbl hbA hL (k := i + 1) (by omega) dL_law_908 rfl ?_
  refine gk_aload_n (pc' := 910) cx dL_law_909 rfl rfl ?_
  refine gk_iload_n (pc' := 911) cx dL_law_910 rfl rfl ?_
  refine gk_iconst (pc' := 912) cx 2 dL_law_911 rfl rfl ?_
  refine gk_iadd (pc' := 913) cx dL_law_912 rfl ?_
  refine gk_val (w := .int (nI (i + 2))) (congrArg Value.int (nI_add i 2)) ?_
  refine gk_sld (pc' := 914) cx hX hbl hbA hL (k := i + 2) (by omega) dL_law_913 rfl ?_
  refine gk_aload_n (pc' := 915) cx dL_law_914 rfl rfl ?_
  refine gk_iload_n (pc' := 916) cx dL_law_915 rfl rfl ?_
  refine gk_iconst (pc' := 917) cx 3 dL_law_916 rfl rfl ?_
  refine gk_iadd (pc' := 918) cx dL_law_917 rfl ?_
  refine gk_val (w := .int (nI (i + 3))) (congrArg Value.int (nI_add i 3)) ?_
  refine gk_sld (pc' := 919) cx hX hbl hbA hL (k := i + 3) (by omega) dL_law_918 rfl ?_
  refine gk_cVI (pc' := 922) cx (Nat.le_of_ble_eq_true rfl) (c_X6_sheet l E (xs (i + 1)) (xs (i + 2)) (xs (i + 3))) mX6_sheet lL_122 dL_law_919 kq88 (ltn rfl) (ltn rfl) rfl rfl rfl ⟨(Nat.le_of_ble_eq_true rfl), (Nat.le_of_ble_eq_true rfl)⟩ (Nat.le_of_ble_eq_true rfl) rfl ⟨(Nat.le_of_ble_eq_true rfl), (Nat.le_of_ble_eq_true rfl)⟩ (fun x2 g2 h2 => ?_)
  obtain ⟨e9, i9⟩ := st_sheet h (xs (i + 1)) (xs (i + 2)) (xs (i + 3)) h1 h2
  refine gk_icmp_eq (pc' := 925) cx 1119 dL_law_922 rfl rfl (fun _ => kk _ _ _ i9) (fun hh => absurd e9 hh)
set_option maxHeartbeats 2000000 in
set_option maxRecDepth 20000 in
theorem law_26 {p : Program} {l : Launch} {e : Env} {s : State} {m : MethodId} {below : List Frame} {meth : Method} {c : Code} {E : Ev} {rt0 : Option FieldType} {b L : Nat} {xs : Nat → Int32} (cx : Cx p s m #[Value.ref b] meth c E 115 cL_law 4 RL rt0) (hX : va_X b L xs s s.heap) (hbl : b < s.heap.size) (hbA : ¬ Ad E 115 b) (hL : L ≤ 3072) {i : Nat} (hi : i + 6 ≤ L) (kk : ∀ (g : IG) (o : Option Nat) (z : Int64), InvE g → GoK p l e room_1 s m #[Value.ref b] below meth c E 115 4 115 26025 (lw_Z below #[Value.ref b] s) g (RFo o) z 1119 [(3, .int (nI i)), (2, .ref (E.2.1 88)), (1, .ref (E.2.1 0)), (0, .ref b)] []) {g : IG} {o : Option Nat} {z : Int64} {hn vn ru tc : Nat} {CS : CSt} (h : Inv g g hn vn ru tc CS)  : GoK p l e room_1 s m #[Value.ref b] below meth c E 115 4 115 26025 (lw_Z below #[Value.ref b] s) g (RFo o) z 927 [(3, .int (nI i)), (2, .ref (E.2.1 88)), (1, .ref (E.2.1 0)), (0, .ref b)] [] := by
  refine gk_aload_n (pc' := 928) cx dL_law_927 rfl rfl ?_
  refine gk_aload_n (pc' := 929) cx dL_law_928 rfl rfl ?_
  refine gk_iload_n (pc' := 930) cx dL_law_929 rfl rfl ?_
  refine gk_iconst (pc' := 931) cx 1 dL_law_930 rfl rfl ?_
  refine gk_iadd (pc' := 932) cx dL_law_931 rfl ?_
  refine gk_val (w := .int (nI (i + 1))) (congrArg Value.int (nI_add i 1)) ?_
  refine gk_sld (pc' := 933) cx hX hbl hbA hL (k := i + 1) (by omega) dL_law_932 rfl ?_
  refine gk_aload_n (pc' := 934) cx dL_law_933 rfl rfl ?_
  refine gk_iload_n (pc' := 935) cx dL_law_934 rfl rfl ?_
  refine gk_iconst (pc' := 936) cx 2 dL_law_935 rfl rfl ?_
  refine gk_iadd (pc' := 937) cx dL_law_936 rfl ?_
  refine gk_val (w := .int (nI (i + 2))) (congrArg Value.int (nI_add i 2)) ?_
  refine gk_sld (pc' := 938) cx hX hbl hbA hL (k := i + 2) (by omega) dL_law_937 rfl ?_
  refine gk_aload_n (pc' := 939) cx dL_law_938 rfl rfl ?_
  refine gk_iload_n (pc' := 940) cx dL_law_939 rfl rfl ?_
  refine gk_iconst (pc' := 941) cx 3 dL_law_940 rfl rfl ?_
  refine gk_iadd (pc' := 942) cx dL_law_941 rfl ?_
  refine gk_val (w := .int (nI (i + 3))) (congrArg Value.int (nI_add i 3)) ?_
  refine gk_sld (pc' := 943) cx hX hbl hbA hL (k := i + 3) (by omega) dL_law_942 rfl ?_
  refine gk_cVI (pc' := 946) cx (Nat.le_of_ble_eq_true rfl) (c_X5_cell l E h.shx (xs (i + 1)) (xs (i + 2)) (xs (i + 3))) mX5_cell lL_123 dL_law_943 kq0 (ltn rfl) (ltn rfl) rfl rfl rfl ⟨(Nat.le_of_ble_eq_true rfl), (Nat.le_of_ble_eq_true rfl)⟩ (Nat.le_of_ble_eq_true rfl) rfl ⟨(Nat.le_of_ble_eq_true rfl), (Nat.le_of_ble_eq_true rfl)⟩ (fun x1 g1 h1 => ?_)
  obtain ⟨p1, k1⟩ := st_cell h (xs (i + 1)) (xs (i + 2)) (xs (i + 3)) h1
  refine gk_aload_n (pc' := 947) cx dL_law_946 rfl rfl ?_
  refine gk_aload_n (pc' := 948) cx dL_law_947 rfl rfl ?_
  refine gk_iload_n (pc' := 949) cx dL_law_948 rfl rfl ?_
  refine gk_iconst (pc' := 950) cx 1 dL_law_949 rfl rfl ?_
  refine gk_iadd (pc' := 951) cx dL_law_950 rfl ?_
  refine gk_val (w := .int (nI (i + 1))) (congrArg Value.int (nI_add i 1)) ?_
  refine gk_sld (pc' := 952) cx hX hbl hbA hL (k := i + 1) (by omega) dL_law_951 rfl ?_
  refine gk_aload_n (pc' := 953) cx dL_law_952 rfl rfl ?_
  refine gk_iload_n (pc' := 954) cx dL_law_953 rfl rfl ?_
  refine gk_iconst (pc' := 955) cx 2 dL_law_954 rfl rfl ?_
  refine gk_iadd (pc' := 956) cx dL_law_955 rfl ?_
  refine gk_val (w := .int (nI (i + 2))) (congrArg Value.int (nI_add i 2)) ?_
  refine gk_sld (pc' := 957) cx hX hbl hbA hL (k := i + 2) (by omega) dL_law_956 rfl ?_
  refine gk_aload_n (pc' := 958) cx dL_law_957 rfl rfl ?_
  refine gk_iload_n (pc' := 959) cx dL_law_958 rfl rfl ?_
  refine gk_iconst (pc' := 960) cx 3 dL_law_959 rfl rfl ?_
  refine gk_iadd (pc' := 961) cx dL_law_960 rfl ?_
  refine gk_val (w := .int (nI (i + 3))) (congrArg Value.int (nI_add i 3)) ?_
  refine gk_sld (pc' := 962) cx hX hbl hbA hL (k := i + 3) (by omega) dL_law_961 rfl ?_
  refine gk_cVI (pc' := 965) cx (Nat.le_of_ble_eq_true rfl) (c_X6_cell l E p1 (xs (i + 1)) (xs (i + 2)) (xs (i + 3))) mX6_cell lL_126 dL_law_962 kq88 (ltn rfl) (ltn rfl) rfl rfl rfl ⟨(Nat.le_of_ble_eq_true rfl), (Nat.le_of_ble_eq_true rfl)⟩ (Nat.le_of_ble_eq_true rfl) rfl ⟨(Nat.le_of_ble_eq_true rfl), (Nat.le_of_ble_eq_true rfl)⟩ (fun x2 g2 h2 => ?_)
  obtain ⟨e9, i9⟩ := k1 _ _ h2
  refine gk_icmp_eq (pc' := 968) cx 1119 dL_law_965 rfl rfl (fun _ => kk _ _ _ i9) (fun hh => absurd e9 hh)
set_option maxHeartbeats 2000000 in
set_option maxRecDepth 20000 in
theorem law_27 {p : Program} {l : Launch} {e : Env} {s : State} {m : MethodId} {below : List Frame} {meth : Method} {c : Code} {E : Ev} {rt0 : Option FieldType} {b L : Nat} {xs : Nat → Int32} (cx : Cx p s m #[Value.ref b] meth c E 115 cL_law 4 RL rt0) (hX : va_X b L xs s s.heap) (hbl : b < s.heap.size) (hbA : ¬ Ad E 115 b) (hL : L ≤ 3072) {i : Nat} (hi : i + 6 ≤ L) (kk : ∀ (g : IG) (o : Option Nat) (z : Int64), InvE g → GoK p l e room_1 s m #[Value.ref b] below meth c E 115 4 115 26025 (lw_Z below #[Value.ref b] s) g (RFo o) z 1119 [(3, .int (nI i)), (2, .ref (E.2.1 88)), (1, .ref (E.2.1 0)), (0, .ref b)] []) {g : IG} {o : Option Nat} {z : Int64} {hn vn ru tc : Nat} {CS : CSt} (h : Inv g g hn vn ru tc CS)  : GoK p l e room_1 s m #[Value.ref b] below meth c E 115 4 115 26025 (lw_Z below #[Value.ref b] s) g (RFo o) z 970 [(3, .int (nI i)), (2, .ref (E.2.1 88)), (1, .ref (E.2.1 0)), (0, .ref b)] [] := by
  refine gk_aload_n (pc' := 971) cx dL_law_970 rfl rfl ?_
  refine gk_aload_n (pc' := 972) cx dL_law_971 rfl rfl ?_
  refine gk_iload_n (pc' := 973) cx dL_law_972 rfl rfl ?_
  refine gk_iconst (pc' := 974) cx 1 dL_law_973 rfl rfl ?_
  refine gk_iadd (pc' := 975) cx dL_law_974 rfl ?_
  refine gk_val (w := .int (nI (i + 1))) (congrArg Value.int (nI_add i 1)) ?_
  refine gk_sld (pc' := 976) cx hX hbl hbA hL (k := i + 1) (by omega) dL_law_975 rfl ?_
  refine gk_aload_n (pc' := 977) cx dL_law_976 rfl rfl ?_
  refine gk_iload_n (pc' := 978) cx dL_law_977 rfl rfl ?_
  refine gk_iconst (pc' := 979) cx 2 dL_law_978 rfl rfl ?_
  refine gk_iadd (pc' := 980) cx dL_law_979 rfl ?_
  refine gk_val (w := .int (nI (i + 2))) (congrArg Value.int (nI_add i 2)) ?_
  refine gk_sld (pc' := 981) cx hX hbl hbA hL (k := i + 2) (by omega) dL_law_980 rfl ?_
  refine gk_aload_n (pc' := 982) cx dL_law_981 rfl rfl ?_
  refine gk_iload_n (pc' := 983) cx dL_law_982 rfl rfl ?_
  refine gk_iconst (pc' := 984) cx 3 dL_law_983 rfl rfl ?_
  refine gk_iadd (pc' := 985) cx dL_law_984 rfl ?_
  refine gk_val (w := .int (nI (i + 3))) (congrArg Value.int (nI_add i 3)) ?_
  refine gk_sld (pc' := 986) cx hX hbl hbA hL (k := i + 3) (by omega) dL_law_985 rfl ?_
  refine gk_aload_n (pc' := 987) cx dL_law_986 rfl rfl ?_
  refine gk_iload_n (pc' := 988) cx dL_law_987 rfl rfl ?_
  refine gk_iconst (pc' := 989) cx 4 dL_law_988 rfl rfl ?_
  refine gk_iadd (pc' := 990) cx dL_law_989 rfl ?_
  refine gk_val (w := .int (nI (i + 4))) (congrArg Value.int (nI_add i 4)) ?_
  refine gk_sld (pc' := 991) cx hX hbl hbA hL (k := i + 4) (by omega) dL_law_990 rfl ?_
  refine gk_aload_n (pc' := 992) cx dL_law_991 rfl rfl ?_
  refine gk_iload_n (pc' := 993) cx dL_law_992 rfl rfl ?_
  refine gk_iconst (pc' := 994) cx 5 dL_law_993 rfl rfl ?_
  refine gk_iadd (pc' := 995) cx dL_law_994 rfl ?_
  refine gk_val (w := .int (nI (i + 5))) (congrArg Value.int (nI_add i 5)) ?_
  refine gk_sld (pc' := 996) cx hX hbl hbA hL (k := i + 5) (by omega) dL_law_995 rfl ?_
  refine gk_cVI (pc' := 999) cx (Nat.le_of_ble_eq_true rfl) (c_X5_copy l E h.shx (xs (i + 1)) (xs (i + 2)) (xs (i + 3)) (xs (i + 4)) (xs (i + 5))) mX5_copy lL_127 dL_law_996 kq0 (ltn rfl) (ltn rfl) rfl rfl rfl ⟨(Nat.le_of_ble_eq_true rfl), (Nat.le_of_ble_eq_true rfl)⟩ (Nat.le_of_ble_eq_true rfl) rfl ⟨(Nat.le_of_ble_eq_true rfl), (Nat.le_of_ble_eq_true rfl)⟩ (fun x1 g1 h1 => ?_)
  obtain ⟨p1, k1⟩ := st_copy h (xs (i + 1)) (xs (i + 2)) (xs (i + 3)) (xs (i + 4)) (xs (i + 5)) h1
  refine gk_aload_n (pc' := 1000) cx dL_law_999 rfl rfl ?_
  refine gk_aload_n (pc' := 1001) cx dL_law_1000 rfl rfl ?_
  refine gk_iload_n (pc' := 1002) cx dL_law_1001 rfl rfl ?_
  refine gk_iconst (pc' := 1003) cx 1 dL_law_1002 rfl rfl ?_
  refine gk_iadd (pc' := 1004) cx dL_law_1003 rfl ?_
  refine gk_val (w := .int (nI (i + 1))) (congrArg Value.int (nI_add i 1)) ?_
  refine gk_sld (pc' := 1005) cx hX hbl hbA hL (k := i + 1) (by omega) dL_law_1004 rfl ?_
  refine gk_aload_n (pc' := 1006) cx dL_law_1005 rfl rfl ?_
  refine gk_iload_n (pc' := 1007) cx dL_law_1006 rfl rfl ?_
  refine gk_iconst (pc' := 1008) cx 2 dL_law_1007 rfl rfl ?_
  refine gk_iadd (pc' := 1009) cx dL_law_1008 rfl ?_
  refine gk_val (w := .int (nI (i + 2))) (congrArg Value.int (nI_add i 2)) ?_
  refine gk_sld (pc' := 1010) cx hX hbl hbA hL (k := i + 2) (by omega) dL_law_1009 rfl ?_
  refine gk_aload_n (pc' := 1011) cx dL_law_1010 rfl rfl ?_
  refine gk_iload_n (pc' := 1012) cx dL_law_1011 rfl rfl ?_
  refine gk_iconst (pc' := 1013) cx 3 dL_law_1012 rfl rfl ?_
  refine gk_iadd (pc' := 1014) cx dL_law_1013 rfl ?_
  refine gk_val (w := .int (nI (i + 3))) (congrArg Value.int (nI_add i 3)) ?_
  refine gk_sld (pc' := 1015) cx hX hbl hbA hL (k := i + 3) (by omega) dL_law_1014 rfl ?_
  refine gk_aload_n (pc' := 1016) cx dL_law_1015 rfl rfl ?_
  refine gk_iload_n (pc' := 1017) cx dL_law_1016 rfl rfl ?_
  refine gk_iconst (pc' := 1018) cx 4 dL_law_1017 rfl rfl ?_
  refine gk_iadd (pc' := 1019) cx dL_law_1018 rfl ?_
  refine gk_val (w := .int (nI (i + 4))) (congrArg Value.int (nI_add i 4)) ?_
  refine gk_sld (pc' := 1020) cx hX hbl hbA hL (k := i + 4) (by omega) dL_law_1019 rfl ?_
  refine gk_aload_n (pc' := 1021) cx dL_law_1020 rfl rfl ?_
  refine gk_iload_n (pc' := 1022) cx dL_law_1021 rfl rfl ?_
  refine gk_iconst (pc' := 1023) cx 5 dL_law_1022 rfl rfl ?_
  refine gk_iadd (pc' := 1024) cx dL_law_1023 rfl ?_
  refine gk_val (w := .int (nI (i + 5))) (congrArg Value.int (nI_add i 5)) ?_
  refine gk_sld (pc' := 1025) cx hX hbl hbA hL (k := i + 5) (by omega) dL_law_1024 rfl ?_
  refine gk_cVI (pc' := 1028) cx (Nat.le_of_ble_eq_true rfl) (c_X6_copy l E p1 (xs (i + 1)) (xs (i + 2)) (xs (i + 3)) (xs (i + 4)) (xs (i + 5))) mX6_copy lL_131 dL_law_1025 kq88 (ltn rfl) (ltn rfl) rfl rfl rfl ⟨(Nat.le_of_ble_eq_true rfl), (Nat.le_of_ble_eq_true rfl)⟩ (Nat.le_of_ble_eq_true rfl) rfl ⟨(Nat.le_of_ble_eq_true rfl), (Nat.le_of_ble_eq_true rfl)⟩ (fun x2 g2 h2 => ?_)
  obtain ⟨e9, i9⟩ := k1 _ _ h2
  refine gk_icmp_eq (pc' := 1031) cx 1119 dL_law_1028 rfl rfl (fun _ => kk _ _ _ i9) (fun hh => absurd e9 hh)
set_option maxHeartbeats 2000000 in
set_option maxRecDepth 20000 in
theorem law_28 {p : Program} {l : Launch} {e : Env} {s : State} {m : MethodId} {below : List Frame} {meth : Method} {c : Code} {E : Ev} {rt0 : Option FieldType} {b L : Nat} {xs : Nat → Int32} (cx : Cx p s m #[Value.ref b] meth c E 115 cL_law 4 RL rt0) (hX : va_X b L xs s s.heap) (hbl : b < s.heap.size) (hbA : ¬ Ad E 115 b) (hL : L ≤ 3072) {i : Nat} (hi : i + 6 ≤ L) (kk : ∀ (g : IG) (o : Option Nat) (z : Int64), InvE g → GoK p l e room_1 s m #[Value.ref b] below meth c E 115 4 115 26025 (lw_Z below #[Value.ref b] s) g (RFo o) z 1119 [(3, .int (nI i)), (2, .ref (E.2.1 88)), (1, .ref (E.2.1 0)), (0, .ref b)] []) {g : IG} {o : Option Nat} {z : Int64} {hn vn ru tc : Nat} {CS : CSt} (h : Inv g g hn vn ru tc CS)  : GoK p l e room_1 s m #[Value.ref b] below meth c E 115 4 115 26025 (lw_Z below #[Value.ref b] s) g (RFo o) z 1033 [(3, .int (nI i)), (2, .ref (E.2.1 88)), (1, .ref (E.2.1 0)), (0, .ref b)] [] := by
  refine gk_aload_n (pc' := 1034) cx dL_law_1033 rfl rfl ?_
  refine gk_aload_n (pc' := 1035) cx dL_law_1034 rfl rfl ?_
  refine gk_iload_n (pc' := 1036) cx dL_law_1035 rfl rfl ?_
  refine gk_iconst (pc' := 1037) cx 1 dL_law_1036 rfl rfl ?_
  refine gk_iadd (pc' := 1038) cx dL_law_1037 rfl ?_
  refine gk_val (w := .int (nI (i + 1))) (congrArg Value.int (nI_add i 1)) ?_
  refine gk_sld (pc' := 1039) cx hX hbl hbA hL (k := i + 1) (by omega) dL_law_1038 rfl ?_
  refine gk_aload_n (pc' := 1040) cx dL_law_1039 rfl rfl ?_
  refine gk_iload_n (pc' := 1041) cx dL_law_1040 rfl rfl ?_
  refine gk_iconst (pc' := 1042) cx 2 dL_law_1041 rfl rfl ?_
  refine gk_iadd (pc' := 1043) cx dL_law_1042 rfl ?_
  refine gk_val (w := .int (nI (i + 2))) (congrArg Value.int (nI_add i 2)) ?_
  refine gk_sld (pc' := 1044) cx hX hbl hbA hL (k := i + 2) (by omega) dL_law_1043 rfl ?_
  refine gk_aload_n (pc' := 1045) cx dL_law_1044 rfl rfl ?_
  refine gk_iload_n (pc' := 1046) cx dL_law_1045 rfl rfl ?_
  refine gk_iconst (pc' := 1047) cx 3 dL_law_1046 rfl rfl ?_
  refine gk_iadd (pc' := 1048) cx dL_law_1047 rfl ?_
  refine gk_val (w := .int (nI (i + 3))) (congrArg Value.int (nI_add i 3)) ?_
  refine gk_sld (pc' := 1049) cx hX hbl hbA hL (k := i + 3) (by omega) dL_law_1048 rfl ?_
  refine gk_aload_n (pc' := 1050) cx dL_law_1049 rfl rfl ?_
  refine gk_iload_n (pc' := 1051) cx dL_law_1050 rfl rfl ?_
  refine gk_iconst (pc' := 1052) cx 4 dL_law_1051 rfl rfl ?_
  refine gk_iadd (pc' := 1053) cx dL_law_1052 rfl ?_
  refine gk_val (w := .int (nI (i + 4))) (congrArg Value.int (nI_add i 4)) ?_
  refine gk_sld (pc' := 1054) cx hX hbl hbA hL (k := i + 4) (by omega) dL_law_1053 rfl ?_
  refine gk_cVI (pc' := 1057) cx (Nat.le_of_ble_eq_true rfl) (c_X5_visits l E h.shx h.2.1.1.2 h.2.1.2.1.2.1 (xs (i + 1)) (xs (i + 2)) (xs (i + 3)) (xs (i + 4))) mX5_visits lL_132 dL_law_1054 kq0 (ltn rfl) (ltn rfl) rfl rfl rfl ⟨(Nat.le_of_ble_eq_true rfl), (Nat.le_of_ble_eq_true rfl)⟩ (Nat.le_of_ble_eq_true rfl) rfl ⟨(Nat.le_of_ble_eq_true rfl), (Nat.le_of_ble_eq_true rfl)⟩ (fun x1 g1 h1 => ?_)
  obtain ⟨p1, k1⟩ := st_visits h (xs (i + 1)) (xs (i + 2)) (xs (i + 3)) (xs (i + 4)) h1
  refine gk_aload_n (pc' := 1058) cx dL_law_1057 rfl rfl ?_
  refine gk_aload_n (pc' := 1059) cx dL_law_1058 rfl rfl ?_
  refine gk_iload_n (pc' := 1060) cx dL_law_1059 rfl rfl ?_
  refine gk_iconst (pc' := 1061) cx 1 dL_law_1060 rfl rfl ?_
  refine gk_iadd (pc' := 1062) cx dL_law_1061 rfl ?_
  refine gk_val (w := .int (nI (i + 1))) (congrArg Value.int (nI_add i 1)) ?_
  refine gk_sld (pc' := 1063) cx hX hbl hbA hL (k := i + 1) (by omega) dL_law_1062 rfl ?_
  refine gk_aload_n (pc' := 1064) cx dL_law_1063 rfl rfl ?_
  refine gk_iload_n (pc' := 1065) cx dL_law_1064 rfl rfl ?_
  refine gk_iconst (pc' := 1066) cx 2 dL_law_1065 rfl rfl ?_
  refine gk_iadd (pc' := 1067) cx dL_law_1066 rfl ?_
  refine gk_val (w := .int (nI (i + 2))) (congrArg Value.int (nI_add i 2)) ?_
  refine gk_sld (pc' := 1068) cx hX hbl hbA hL (k := i + 2) (by omega) dL_law_1067 rfl ?_
  refine gk_aload_n (pc' := 1069) cx dL_law_1068 rfl rfl ?_
  refine gk_iload_n (pc' := 1070) cx dL_law_1069 rfl rfl ?_
  refine gk_iconst (pc' := 1071) cx 3 dL_law_1070 rfl rfl ?_
  refine gk_iadd (pc' := 1072) cx dL_law_1071 rfl ?_
  refine gk_val (w := .int (nI (i + 3))) (congrArg Value.int (nI_add i 3)) ?_
  refine gk_sld (pc' := 1073) cx hX hbl hbA hL (k := i + 3) (by omega) dL_law_1072 rfl ?_
  refine gk_aload_n (pc' := 1074) cx dL_law_1073 rfl rfl ?_
  refine gk_iload_n (pc' := 1075) cx dL_law_1074 rfl rfl ?_
  refine gk_iconst (pc' := 1076) cx 4 dL_law_1075 rfl rfl ?_
  refine gk_iadd (pc' := 1077) cx dL_law_1076 rfl ?_
  refine gk_val (w := .int (nI (i + 4))) (congrArg Value.int (nI_add i 4)) ?_
  refine gk_sld (pc' := 1078) cx hX hbl hbA hL (k := i + 4) (by omega) dL_law_1077 rfl ?_
  refine gk_cVI (pc' := 1081) cx (Nat.le_of_ble_eq_true rfl) (c_X6_visits l E h.2.1.1.1 h.2.1.1.2 p1.1 p1.2.1 p1.2.2 (xs (i + 1)) (xs (i + 2)) (xs (i + 3)) (xs (i + 4))) mX6_visits lL_135 dL_law_1078 kq88 (ltn rfl) (ltn rfl) rfl rfl rfl ⟨(Nat.le_of_ble_eq_true rfl), (Nat.le_of_ble_eq_true rfl)⟩ (Nat.le_of_ble_eq_true rfl) rfl ⟨(Nat.le_of_ble_eq_true rfl), (Nat.le_of_ble_eq_true rfl)⟩ (fun x2 g2 h2 => ?_)
  obtain ⟨e9, i9⟩ := k1 _ _ h2
  refine gk_icmp_eq (pc' := 1084) cx 1119 dL_law_1081 rfl rfl (fun _ => kk _ _ _ i9) (fun hh => absurd e9 hh)
set_option maxHeartbeats 2000000 in
set_option maxRecDepth 20000 in
theorem law_29 {p : Program} {l : Launch} {e : Env} {s : State} {m : MethodId} {below : List Frame} {meth : Method} {c : Code} {E : Ev} {rt0 : Option FieldType} {b L : Nat} {xs : Nat → Int32} (cx : Cx p s m #[Value.ref b] meth c E 115 cL_law 4 RL rt0) (hX : va_X b L xs s s.heap) (hbl : b < s.heap.size) (hbA : ¬ Ad E 115 b) (hL : L ≤ 3072) {i : Nat} (hi : i + 6 ≤ L) (kk : ∀ (g : IG) (o : Option Nat) (z : Int64), InvE g → GoK p l e room_1 s m #[Value.ref b] below meth c E 115 4 115 26025 (lw_Z below #[Value.ref b] s) g (RFo o) z 1119 [(3, .int (nI i)), (2, .ref (E.2.1 88)), (1, .ref (E.2.1 0)), (0, .ref b)] []) {g : IG} {o : Option Nat} {z : Int64} {hn vn ru tc : Nat} {CS : CSt} (h : Inv g g hn vn ru tc CS)  : GoK p l e room_1 s m #[Value.ref b] below meth c E 115 4 115 26025 (lw_Z below #[Value.ref b] s) g (RFo o) z 1086 [(3, .int (nI i)), (2, .ref (E.2.1 88)), (1, .ref (E.2.1 0)), (0, .ref b)] [] := by
  obtain ⟨k1, k2, e9⟩ := st_taken h (xs (i + 1)) (xs (i + 2))
  have i9 : InvE g := ⟨_, _, _, _, _, h⟩
  refine gk_aload_n (pc' := 1087) cx dL_law_1086 rfl rfl ?_
  refine gk_aload_n (pc' := 1088) cx dL_law_1087 rfl rfl ?_
  refine gk_iload_n (pc' := 1089) cx dL_law_1088 rfl rfl ?_
  refine gk_iconst (pc' := 1090) cx 1 dL_law_1089 rfl rfl ?_
  refine gk_iadd (pc' := 1091) cx dL_law_1090 rfl ?_
  refine gk_val (w := .int (nI (i + 1))) (congrArg Value.int (nI_add i 1)) ?_
  refine gk_sld (pc' := 1092) cx hX hbl hbA hL (k := i + 1) (by omega) dL_law_1091 rfl ?_
  refine gk_aload_n (pc' := 1093) cx dL_law_1092 rfl rfl ?_
  refine gk_iload_n (pc' := 1094) cx dL_law_1093 rfl rfl ?_
  refine gk_iconst (pc' := 1095) cx 2 dL_law_1094 rfl rfl ?_
  refine gk_iadd (pc' := 1096) cx dL_law_1095 rfl ?_
  refine gk_val (w := .int (nI (i + 2))) (congrArg Value.int (nI_add i 2)) ?_
  refine gk_sld (pc' := 1097) cx hX hbl hbA hL (k := i + 2) (by omega) dL_law_1096 rfl ?_
  refine gk_cVi (pc' := 1100) cx (Nat.le_of_ble_eq_true rfl) (c_X5_taken l E h.xp k1 (xs (i + 1)) (xs (i + 2))) mX5_taken lL_136 dL_law_1097 kq0 (ltn rfl) (ltn rfl) rfl rfl rfl ⟨(Nat.le_of_ble_eq_true rfl), (Nat.le_of_ble_eq_true rfl)⟩ (Nat.le_of_ble_eq_true rfl) rfl ⟨(Nat.le_of_ble_eq_true rfl), (Nat.le_of_ble_eq_true rfl)⟩ ?_
  refine gk_aload_n (pc' := 1101) cx dL_law_1100 rfl rfl ?_
  refine gk_aload_n (pc' := 1102) cx dL_law_1101 rfl rfl ?_
  refine gk_iload_n (pc' := 1103) cx dL_law_1102 rfl rfl ?_
  refine gk_iconst (pc' := 1104) cx 1 dL_law_1103 rfl rfl ?_
  refine gk_iadd (pc' := 1105) cx dL_law_1104 rfl ?_
  refine gk_val (w := .int (nI (i + 1))) (congrArg Value.int (nI_add i 1)) ?_
  refine gk_sld (pc' := 1106) cx hX hbl hbA hL (k := i + 1) (by omega) dL_law_1105 rfl ?_
  refine gk_aload_n (pc' := 1107) cx dL_law_1106 rfl rfl ?_
  refine gk_iload_n (pc' := 1108) cx dL_law_1107 rfl rfl ?_
  refine gk_iconst (pc' := 1109) cx 2 dL_law_1108 rfl rfl ?_
  refine gk_iadd (pc' := 1110) cx dL_law_1109 rfl ?_
  refine gk_val (w := .int (nI (i + 2))) (congrArg Value.int (nI_add i 2)) ?_
  refine gk_sld (pc' := 1111) cx hX hbl hbA hL (k := i + 2) (by omega) dL_law_1110 rfl ?_
  refine gk_cVi (pc' := 1114) cx (Nat.le_of_ble_eq_true rfl) (c_X6_taken l E h.xm k2 (xs (i + 1)) (xs (i + 2))) mX6_taken lL_139 dL_law_1111 kq88 (ltn rfl) (ltn rfl) rfl rfl rfl ⟨(Nat.le_of_ble_eq_true rfl), (Nat.le_of_ble_eq_true rfl)⟩ (Nat.le_of_ble_eq_true rfl) rfl ⟨(Nat.le_of_ble_eq_true rfl), (Nat.le_of_ble_eq_true rfl)⟩ ?_
  refine gk_icmp_eq (pc' := 1117) cx 1119 dL_law_1114 rfl rfl (fun _ => kk _ _ _ i9) (fun hh => absurd e9 hh)
