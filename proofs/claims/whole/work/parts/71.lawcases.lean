def Op0 (Rel : StC → StM → Prop) : Prop := ∀ (S : StC) (T : StM) (a1 : Int32) (a2 : Int32), Rel S T → ∃ (r : Int32) (S' : StC) (T' : StM), m_CX_setting S a1 a2 = some (r, S') ∧ m_MX_setting T a1 a2 = some (r, T') ∧ Rel S' T'
set_option maxHeartbeats 4000000 in
set_option maxRecDepth 100000 in
theorem law_0 {Rel : StC → StM → Prop} (hop : Op0 Rel) {p : Program} {l : Launch} {e : Env} {s : State} {m : MethodId} {below : List Frame} {meth : Method} {c : Code} {D : va_G} {adC adM : Nat → Nat} {caC caM : Nat → ClassId} {b L : Nat} {xs : Nat → Int32} {x3 : Int32} {S : StC} {T : StM} (g : CallFix p m c code 4 s #[Value.ref b] tb RL) (hKC : va_K D vwCl (tyC caC) s) (hKM : va_K D vwCl (tyM caM) s) (hX : va_X b L xs s s.heap) (hbl : b < s.heap.size) (h1 : inb (x3 + 1) L = true) (h2 : inb (x3 + 2) L = true) (h3 : inb (x3 + 3) L = true) (h4 : inb (x3 + 4) L = true) (hRel : Rel S T) (cont : ∀ S T, Rel S T → Vj p l e room_1 s m #[Value.ref b] below meth c (lw_Z below #[Value.ref b] s) D vwCl (fun q : Nat => s.heap.size ≤ q) 4 65 8649 (wdC adC caC S ++ wdM adM caM T) 918 [(0, .ref b), (1, .ref (adC 0)), (2, .ref (adM 0)), (3, .int x3)] []) : Vj p l e room_1 s m #[Value.ref b] below meth c (lw_Z below #[Value.ref b] s) D vwCl (fun q : Nat => s.heap.size ≤ q) 4 65 8649 (wdC adC caC S ++ wdM adM caM T) 144 [(0, .ref b), (1, .ref (adC 0)), (2, .ref (adM 0)), (3, .int x3)] [] := by
  refine v_aload_n g dk_L_law_144 1 rfl rfl (pc' := 145) rfl ?_
  refine v_aload_n g dk_L_law_145 0 rfl rfl (pc' := 146) rfl ?_
  refine v_iload_n g dk_L_law_146 3 rfl rfl (pc' := 147) rfl ?_
  refine v_iconst (v := 1) g dk_L_law_147 (by decide) (pc' := 148) rfl ?_
  refine v_iadd g dk_L_law_148 (pc' := 149) rfl ?_
  refine v_sld g hX hbl (Nat.not_le.mpr hbl) h1 dk_L_law_149 (pc' := 150) rfl ?_
  refine v_aload_n g dk_L_law_150 0 rfl rfl (pc' := 151) rfl ?_
  refine v_iload_n g dk_L_law_151 3 rfl rfl (pc' := 152) rfl ?_
  refine v_iconst (v := 2) g dk_L_law_152 (by decide) (pc' := 153) rfl ?_
  refine v_iadd g dk_L_law_153 (pc' := 154) rfl ?_
  refine v_sld g hX hbl (Nat.not_le.mpr hbl) h2 dk_L_law_154 (pc' := 155) rfl ?_
  obtain ⟨r, S', T', hC, hM, hR⟩ := hop S T (xs (x3 + 1).toNatClampNeg) (xs (x3 + 2).toNatClampNeg) hRel
  refine v_lawC (As := [.int (xs (x3 + 1).toNatClampNeg), .int (xs (x3 + 2).toNatClampNeg)]) (rest := []) (S1 := S') (r := r) g hKC (fun _ h => h) (c_CX_setting hC) (kcL_13 g.2.2.2.2 rfl rfl (Nat.le_of_ble_eq_true rfl) (Nat.le_of_ble_eq_true rfl)) rfl rfl (Nat.le_of_ble_eq_true rfl) dk_L_law_155 (pc' := 158) rfl ?_
  refine v_aload_n g dk_L_law_158 2 rfl rfl (pc' := 159) rfl ?_
  refine v_aload_n g dk_L_law_159 0 rfl rfl (pc' := 160) rfl ?_
  refine v_iload_n g dk_L_law_160 3 rfl rfl (pc' := 161) rfl ?_
  refine v_iconst (v := 1) g dk_L_law_161 (by decide) (pc' := 162) rfl ?_
  refine v_iadd g dk_L_law_162 (pc' := 163) rfl ?_
  refine v_sld g hX hbl (Nat.not_le.mpr hbl) h1 dk_L_law_163 (pc' := 164) rfl ?_
  refine v_aload_n g dk_L_law_164 0 rfl rfl (pc' := 165) rfl ?_
  refine v_iload_n g dk_L_law_165 3 rfl rfl (pc' := 166) rfl ?_
  refine v_iconst (v := 2) g dk_L_law_166 (by decide) (pc' := 167) rfl ?_
  refine v_iadd g dk_L_law_167 (pc' := 168) rfl ?_
  refine v_sld g hX hbl (Nat.not_le.mpr hbl) h2 dk_L_law_168 (pc' := 169) rfl ?_
  refine v_lawM (As := [.int (xs (x3 + 1).toNatClampNeg), .int (xs (x3 + 2).toNatClampNeg)]) (rest := [.int r]) (T1 := T') (r := r) g hKM (fun _ h => h) (c_MX_setting hM) (kcL_17 g.2.2.2.2 rfl rfl (Nat.le_of_ble_eq_true rfl) (Nat.le_of_ble_eq_true rfl)) rfl rfl (Nat.le_of_ble_eq_true rfl) dk_L_law_169 (pc' := 172) rfl ?_
  refine v_icmp_eq (tgt := 918) (pc' := 175) g dk_L_law_172 (by decide) rfl (fun _ => ?_) (fun hne => absurd rfl hne)
  exact cont _ _ hR
def Op1 (Rel : StC → StM → Prop) : Prop := ∀ (S : StC) (T : StM) (a1 : Int32), Rel S T → ∃ (r : Int32) (S' : StC) (T' : StM), m_CX_alias S a1 = some (r, S') ∧ m_MX_alias T a1 = some (r, T') ∧ Rel S' T'
set_option maxHeartbeats 4000000 in
set_option maxRecDepth 100000 in
theorem law_1 {Rel : StC → StM → Prop} (hop : Op1 Rel) {p : Program} {l : Launch} {e : Env} {s : State} {m : MethodId} {below : List Frame} {meth : Method} {c : Code} {D : va_G} {adC adM : Nat → Nat} {caC caM : Nat → ClassId} {b L : Nat} {xs : Nat → Int32} {x3 : Int32} {S : StC} {T : StM} (g : CallFix p m c code 4 s #[Value.ref b] tb RL) (hKC : va_K D vwCl (tyC caC) s) (hKM : va_K D vwCl (tyM caM) s) (hX : va_X b L xs s s.heap) (hbl : b < s.heap.size) (h1 : inb (x3 + 1) L = true) (h2 : inb (x3 + 2) L = true) (h3 : inb (x3 + 3) L = true) (h4 : inb (x3 + 4) L = true) (hRel : Rel S T) (cont : ∀ S T, Rel S T → Vj p l e room_1 s m #[Value.ref b] below meth c (lw_Z below #[Value.ref b] s) D vwCl (fun q : Nat => s.heap.size ≤ q) 4 65 8649 (wdC adC caC S ++ wdM adM caM T) 918 [(0, .ref b), (1, .ref (adC 0)), (2, .ref (adM 0)), (3, .int x3)] []) : Vj p l e room_1 s m #[Value.ref b] below meth c (lw_Z below #[Value.ref b] s) D vwCl (fun q : Nat => s.heap.size ≤ q) 4 65 8649 (wdC adC caC S ++ wdM adM caM T) 177 [(0, .ref b), (1, .ref (adC 0)), (2, .ref (adM 0)), (3, .int x3)] [] := by
  refine v_aload_n g dk_L_law_177 1 rfl rfl (pc' := 178) rfl ?_
  refine v_aload_n g dk_L_law_178 0 rfl rfl (pc' := 179) rfl ?_
  refine v_iload_n g dk_L_law_179 3 rfl rfl (pc' := 180) rfl ?_
  refine v_iconst (v := 1) g dk_L_law_180 (by decide) (pc' := 181) rfl ?_
  refine v_iadd g dk_L_law_181 (pc' := 182) rfl ?_
  refine v_sld g hX hbl (Nat.not_le.mpr hbl) h1 dk_L_law_182 (pc' := 183) rfl ?_
  obtain ⟨r, S', T', hC, hM, hR⟩ := hop S T (xs (x3 + 1).toNatClampNeg) hRel
  refine v_lawC (As := [.int (xs (x3 + 1).toNatClampNeg)]) (rest := []) (S1 := S') (r := r) g hKC (fun _ h => h) (c_CX_alias hC) (kcL_18 g.2.2.2.2 rfl rfl (Nat.le_of_ble_eq_true rfl) (Nat.le_of_ble_eq_true rfl)) rfl rfl (Nat.le_of_ble_eq_true rfl) dk_L_law_183 (pc' := 186) rfl ?_
  refine v_aload_n g dk_L_law_186 2 rfl rfl (pc' := 187) rfl ?_
  refine v_aload_n g dk_L_law_187 0 rfl rfl (pc' := 188) rfl ?_
  refine v_iload_n g dk_L_law_188 3 rfl rfl (pc' := 189) rfl ?_
  refine v_iconst (v := 1) g dk_L_law_189 (by decide) (pc' := 190) rfl ?_
  refine v_iadd g dk_L_law_190 (pc' := 191) rfl ?_
  refine v_sld g hX hbl (Nat.not_le.mpr hbl) h1 dk_L_law_191 (pc' := 192) rfl ?_
  refine v_lawM (As := [.int (xs (x3 + 1).toNatClampNeg)]) (rest := [.int r]) (T1 := T') (r := r) g hKM (fun _ h => h) (c_MX_alias hM) (kcL_22 g.2.2.2.2 rfl rfl (Nat.le_of_ble_eq_true rfl) (Nat.le_of_ble_eq_true rfl)) rfl rfl (Nat.le_of_ble_eq_true rfl) dk_L_law_192 (pc' := 195) rfl ?_
  refine v_icmp_eq (tgt := 918) (pc' := 198) g dk_L_law_195 (by decide) rfl (fun _ => ?_) (fun hne => absurd rfl hne)
  exact cont _ _ hR
def Op2 (Rel : StC → StM → Prop) : Prop := ∀ (S : StC) (T : StM) (a1 : Int32), Rel S T → ∃ (r : Int32), m_CX_base S a1 = some r ∧ m_MX_base T a1 = some r ∧ Rel S T
set_option maxHeartbeats 4000000 in
set_option maxRecDepth 100000 in
theorem law_2 {Rel : StC → StM → Prop} (hop : Op2 Rel) {p : Program} {l : Launch} {e : Env} {s : State} {m : MethodId} {below : List Frame} {meth : Method} {c : Code} {D : va_G} {adC adM : Nat → Nat} {caC caM : Nat → ClassId} {b L : Nat} {xs : Nat → Int32} {x3 : Int32} {S : StC} {T : StM} (g : CallFix p m c code 4 s #[Value.ref b] tb RL) (hKC : va_K D vwCl (tyC caC) s) (hKM : va_K D vwCl (tyM caM) s) (hX : va_X b L xs s s.heap) (hbl : b < s.heap.size) (h1 : inb (x3 + 1) L = true) (h2 : inb (x3 + 2) L = true) (h3 : inb (x3 + 3) L = true) (h4 : inb (x3 + 4) L = true) (hRel : Rel S T) (cont : ∀ S T, Rel S T → Vj p l e room_1 s m #[Value.ref b] below meth c (lw_Z below #[Value.ref b] s) D vwCl (fun q : Nat => s.heap.size ≤ q) 4 65 8649 (wdC adC caC S ++ wdM adM caM T) 918 [(0, .ref b), (1, .ref (adC 0)), (2, .ref (adM 0)), (3, .int x3)] []) : Vj p l e room_1 s m #[Value.ref b] below meth c (lw_Z below #[Value.ref b] s) D vwCl (fun q : Nat => s.heap.size ≤ q) 4 65 8649 (wdC adC caC S ++ wdM adM caM T) 200 [(0, .ref b), (1, .ref (adC 0)), (2, .ref (adM 0)), (3, .int x3)] [] := by
  refine v_aload_n g dk_L_law_200 1 rfl rfl (pc' := 201) rfl ?_
  refine v_aload_n g dk_L_law_201 0 rfl rfl (pc' := 202) rfl ?_
  refine v_iload_n g dk_L_law_202 3 rfl rfl (pc' := 203) rfl ?_
  refine v_iconst (v := 1) g dk_L_law_203 (by decide) (pc' := 204) rfl ?_
  refine v_iadd g dk_L_law_204 (pc' := 205) rfl ?_
  refine v_sld g hX hbl (Nat.not_le.mpr hbl) h1 dk_L_law_205 (pc' := 206) rfl ?_
  obtain ⟨r, hC, hM, hR⟩ := hop S T (xs (x3 + 1).toNatClampNeg) hRel
  refine v_lawC (As := [.int (xs (x3 + 1).toNatClampNeg)]) (rest := []) (S1 := S) (r := r) g hKC (fun _ h => h) (c_CX_base hC) (kcL_23 g.2.2.2.2 rfl rfl (Nat.le_of_ble_eq_true rfl) (Nat.le_of_ble_eq_true rfl)) rfl rfl (Nat.le_of_ble_eq_true rfl) dk_L_law_206 (pc' := 209) rfl ?_
  refine v_aload_n g dk_L_law_209 2 rfl rfl (pc' := 210) rfl ?_
  refine v_aload_n g dk_L_law_210 0 rfl rfl (pc' := 211) rfl ?_
  refine v_iload_n g dk_L_law_211 3 rfl rfl (pc' := 212) rfl ?_
  refine v_iconst (v := 1) g dk_L_law_212 (by decide) (pc' := 213) rfl ?_
  refine v_iadd g dk_L_law_213 (pc' := 214) rfl ?_
  refine v_sld g hX hbl (Nat.not_le.mpr hbl) h1 dk_L_law_214 (pc' := 215) rfl ?_
  refine v_lawM (As := [.int (xs (x3 + 1).toNatClampNeg)]) (rest := [.int r]) (T1 := T) (r := r) g hKM (fun _ h => h) (c_MX_base hM) (kcL_26 g.2.2.2.2 rfl rfl (Nat.le_of_ble_eq_true rfl) (Nat.le_of_ble_eq_true rfl)) rfl rfl (Nat.le_of_ble_eq_true rfl) dk_L_law_215 (pc' := 218) rfl ?_
  refine v_icmp_eq (tgt := 918) (pc' := 221) g dk_L_law_218 (by decide) rfl (fun _ => ?_) (fun hne => absurd rfl hne)
  exact cont _ _ hR
def Op3 (Rel : StC → StM → Prop) : Prop := ∀ (S : StC) (T : StM), Rel S T → ∃ (r : Int32) (S' : StC) (T' : StM), m_CX_platform S = some (r, S') ∧ m_MX_platform T = some (r, T') ∧ Rel S' T'
set_option maxHeartbeats 4000000 in
set_option maxRecDepth 100000 in
theorem law_3 {Rel : StC → StM → Prop} (hop : Op3 Rel) {p : Program} {l : Launch} {e : Env} {s : State} {m : MethodId} {below : List Frame} {meth : Method} {c : Code} {D : va_G} {adC adM : Nat → Nat} {caC caM : Nat → ClassId} {b L : Nat} {xs : Nat → Int32} {x3 : Int32} {S : StC} {T : StM} (g : CallFix p m c code 4 s #[Value.ref b] tb RL) (hKC : va_K D vwCl (tyC caC) s) (hKM : va_K D vwCl (tyM caM) s) (hX : va_X b L xs s s.heap) (hbl : b < s.heap.size) (h1 : inb (x3 + 1) L = true) (h2 : inb (x3 + 2) L = true) (h3 : inb (x3 + 3) L = true) (h4 : inb (x3 + 4) L = true) (hRel : Rel S T) (cont : ∀ S T, Rel S T → Vj p l e room_1 s m #[Value.ref b] below meth c (lw_Z below #[Value.ref b] s) D vwCl (fun q : Nat => s.heap.size ≤ q) 4 65 8649 (wdC adC caC S ++ wdM adM caM T) 918 [(0, .ref b), (1, .ref (adC 0)), (2, .ref (adM 0)), (3, .int x3)] []) : Vj p l e room_1 s m #[Value.ref b] below meth c (lw_Z below #[Value.ref b] s) D vwCl (fun q : Nat => s.heap.size ≤ q) 4 65 8649 (wdC adC caC S ++ wdM adM caM T) 223 [(0, .ref b), (1, .ref (adC 0)), (2, .ref (adM 0)), (3, .int x3)] [] := by
  refine v_aload_n g dk_L_law_223 1 rfl rfl (pc' := 224) rfl ?_
  obtain ⟨r, S', T', hC, hM, hR⟩ := hop S T hRel
  refine v_lawC (As := []) (rest := []) (S1 := S') (r := r) g hKC (fun _ h => h) (c_CX_platform hC) (kcL_27 g.2.2.2.2 rfl rfl (Nat.le_of_ble_eq_true rfl) (Nat.le_of_ble_eq_true rfl)) rfl rfl (Nat.le_of_ble_eq_true rfl) dk_L_law_224 (pc' := 227) rfl ?_
  refine v_aload_n g dk_L_law_227 2 rfl rfl (pc' := 228) rfl ?_
  refine v_lawM (As := []) (rest := [.int r]) (T1 := T') (r := r) g hKM (fun _ h => h) (c_MX_platform hM) (kcL_31 g.2.2.2.2 rfl rfl (Nat.le_of_ble_eq_true rfl) (Nat.le_of_ble_eq_true rfl)) rfl rfl (Nat.le_of_ble_eq_true rfl) dk_L_law_228 (pc' := 231) rfl ?_
  refine v_icmp_eq (tgt := 918) (pc' := 234) g dk_L_law_231 (by decide) rfl (fun _ => ?_) (fun hne => absurd rfl hne)
  exact cont _ _ hR
def Op4 (Rel : StC → StM → Prop) : Prop := ∀ (S : StC) (T : StM) (a1 : Int32) (a2 : Int32) (a3 : Int32), Rel S T → ∃ (r : Int32) (S' : StC) (T' : StM), m_CX_has S a1 a2 a3 = some (r, S') ∧ m_MX_has T a1 a2 a3 = some (r, T') ∧ Rel S' T'
set_option maxHeartbeats 4000000 in
set_option maxRecDepth 100000 in
theorem law_4 {Rel : StC → StM → Prop} (hop : Op4 Rel) {p : Program} {l : Launch} {e : Env} {s : State} {m : MethodId} {below : List Frame} {meth : Method} {c : Code} {D : va_G} {adC adM : Nat → Nat} {caC caM : Nat → ClassId} {b L : Nat} {xs : Nat → Int32} {x3 : Int32} {S : StC} {T : StM} (g : CallFix p m c code 4 s #[Value.ref b] tb RL) (hKC : va_K D vwCl (tyC caC) s) (hKM : va_K D vwCl (tyM caM) s) (hX : va_X b L xs s s.heap) (hbl : b < s.heap.size) (h1 : inb (x3 + 1) L = true) (h2 : inb (x3 + 2) L = true) (h3 : inb (x3 + 3) L = true) (h4 : inb (x3 + 4) L = true) (hRel : Rel S T) (cont : ∀ S T, Rel S T → Vj p l e room_1 s m #[Value.ref b] below meth c (lw_Z below #[Value.ref b] s) D vwCl (fun q : Nat => s.heap.size ≤ q) 4 65 8649 (wdC adC caC S ++ wdM adM caM T) 918 [(0, .ref b), (1, .ref (adC 0)), (2, .ref (adM 0)), (3, .int x3)] []) : Vj p l e room_1 s m #[Value.ref b] below meth c (lw_Z below #[Value.ref b] s) D vwCl (fun q : Nat => s.heap.size ≤ q) 4 65 8649 (wdC adC caC S ++ wdM adM caM T) 236 [(0, .ref b), (1, .ref (adC 0)), (2, .ref (adM 0)), (3, .int x3)] [] := by
  refine v_aload_n g dk_L_law_236 1 rfl rfl (pc' := 237) rfl ?_
  refine v_aload_n g dk_L_law_237 0 rfl rfl (pc' := 238) rfl ?_
  refine v_iload_n g dk_L_law_238 3 rfl rfl (pc' := 239) rfl ?_
  refine v_iconst (v := 1) g dk_L_law_239 (by decide) (pc' := 240) rfl ?_
  refine v_iadd g dk_L_law_240 (pc' := 241) rfl ?_
  refine v_sld g hX hbl (Nat.not_le.mpr hbl) h1 dk_L_law_241 (pc' := 242) rfl ?_
  refine v_aload_n g dk_L_law_242 0 rfl rfl (pc' := 243) rfl ?_
  refine v_iload_n g dk_L_law_243 3 rfl rfl (pc' := 244) rfl ?_
  refine v_iconst (v := 2) g dk_L_law_244 (by decide) (pc' := 245) rfl ?_
  refine v_iadd g dk_L_law_245 (pc' := 246) rfl ?_
  refine v_sld g hX hbl (Nat.not_le.mpr hbl) h2 dk_L_law_246 (pc' := 247) rfl ?_
  refine v_aload_n g dk_L_law_247 0 rfl rfl (pc' := 248) rfl ?_
  refine v_iload_n g dk_L_law_248 3 rfl rfl (pc' := 249) rfl ?_
  refine v_iconst (v := 3) g dk_L_law_249 (by decide) (pc' := 250) rfl ?_
  refine v_iadd g dk_L_law_250 (pc' := 251) rfl ?_
  refine v_sld g hX hbl (Nat.not_le.mpr hbl) h3 dk_L_law_251 (pc' := 252) rfl ?_
  obtain ⟨r, S', T', hC, hM, hR⟩ := hop S T (xs (x3 + 1).toNatClampNeg) (xs (x3 + 2).toNatClampNeg) (xs (x3 + 3).toNatClampNeg) hRel
  refine v_lawC (As := [.int (xs (x3 + 1).toNatClampNeg), .int (xs (x3 + 2).toNatClampNeg), .int (xs (x3 + 3).toNatClampNeg)]) (rest := []) (S1 := S') (r := r) g hKC (fun _ h => h) (c_CX_has hC) (kcL_32 g.2.2.2.2 rfl rfl (Nat.le_of_ble_eq_true rfl) (Nat.le_of_ble_eq_true rfl)) rfl rfl (Nat.le_of_ble_eq_true rfl) dk_L_law_252 (pc' := 255) rfl ?_
  refine v_aload_n g dk_L_law_255 2 rfl rfl (pc' := 256) rfl ?_
  refine v_aload_n g dk_L_law_256 0 rfl rfl (pc' := 257) rfl ?_
  refine v_iload_n g dk_L_law_257 3 rfl rfl (pc' := 258) rfl ?_
  refine v_iconst (v := 1) g dk_L_law_258 (by decide) (pc' := 259) rfl ?_
  refine v_iadd g dk_L_law_259 (pc' := 260) rfl ?_
  refine v_sld g hX hbl (Nat.not_le.mpr hbl) h1 dk_L_law_260 (pc' := 261) rfl ?_
  refine v_aload_n g dk_L_law_261 0 rfl rfl (pc' := 262) rfl ?_
  refine v_iload_n g dk_L_law_262 3 rfl rfl (pc' := 263) rfl ?_
  refine v_iconst (v := 2) g dk_L_law_263 (by decide) (pc' := 264) rfl ?_
  refine v_iadd g dk_L_law_264 (pc' := 265) rfl ?_
  refine v_sld g hX hbl (Nat.not_le.mpr hbl) h2 dk_L_law_265 (pc' := 266) rfl ?_
  refine v_aload_n g dk_L_law_266 0 rfl rfl (pc' := 267) rfl ?_
  refine v_iload_n g dk_L_law_267 3 rfl rfl (pc' := 268) rfl ?_
  refine v_iconst (v := 3) g dk_L_law_268 (by decide) (pc' := 269) rfl ?_
  refine v_iadd g dk_L_law_269 (pc' := 270) rfl ?_
  refine v_sld g hX hbl (Nat.not_le.mpr hbl) h3 dk_L_law_270 (pc' := 271) rfl ?_
  refine v_lawM (As := [.int (xs (x3 + 1).toNatClampNeg), .int (xs (x3 + 2).toNatClampNeg), .int (xs (x3 + 3).toNatClampNeg)]) (rest := [.int r]) (T1 := T') (r := r) g hKM (fun _ h => h) (c_MX_has hM) (kcL_36 g.2.2.2.2 rfl rfl (Nat.le_of_ble_eq_true rfl) (Nat.le_of_ble_eq_true rfl)) rfl rfl (Nat.le_of_ble_eq_true rfl) dk_L_law_271 (pc' := 274) rfl ?_
  refine v_icmp_eq (tgt := 918) (pc' := 277) g dk_L_law_274 (by decide) rfl (fun _ => ?_) (fun hne => absurd rfl hne)
  exact cont _ _ hR
def Op5 (Rel : StC → StM → Prop) : Prop := ∀ (S : StC) (T : StM), Rel S T → ∃ (r : Int32) (S' : StC) (T' : StM), m_CX_condition S = some (r, S') ∧ m_MX_condition T = some (r, T') ∧ Rel S' T'
set_option maxHeartbeats 4000000 in
set_option maxRecDepth 100000 in
theorem law_5 {Rel : StC → StM → Prop} (hop : Op5 Rel) {p : Program} {l : Launch} {e : Env} {s : State} {m : MethodId} {below : List Frame} {meth : Method} {c : Code} {D : va_G} {adC adM : Nat → Nat} {caC caM : Nat → ClassId} {b L : Nat} {xs : Nat → Int32} {x3 : Int32} {S : StC} {T : StM} (g : CallFix p m c code 4 s #[Value.ref b] tb RL) (hKC : va_K D vwCl (tyC caC) s) (hKM : va_K D vwCl (tyM caM) s) (hX : va_X b L xs s s.heap) (hbl : b < s.heap.size) (h1 : inb (x3 + 1) L = true) (h2 : inb (x3 + 2) L = true) (h3 : inb (x3 + 3) L = true) (h4 : inb (x3 + 4) L = true) (hRel : Rel S T) (cont : ∀ S T, Rel S T → Vj p l e room_1 s m #[Value.ref b] below meth c (lw_Z below #[Value.ref b] s) D vwCl (fun q : Nat => s.heap.size ≤ q) 4 65 8649 (wdC adC caC S ++ wdM adM caM T) 918 [(0, .ref b), (1, .ref (adC 0)), (2, .ref (adM 0)), (3, .int x3)] []) : Vj p l e room_1 s m #[Value.ref b] below meth c (lw_Z below #[Value.ref b] s) D vwCl (fun q : Nat => s.heap.size ≤ q) 4 65 8649 (wdC adC caC S ++ wdM adM caM T) 279 [(0, .ref b), (1, .ref (adC 0)), (2, .ref (adM 0)), (3, .int x3)] [] := by
  refine v_aload_n g dk_L_law_279 1 rfl rfl (pc' := 280) rfl ?_
  obtain ⟨r, S', T', hC, hM, hR⟩ := hop S T hRel
  refine v_lawC (As := []) (rest := []) (S1 := S') (r := r) g hKC (fun _ h => h) (c_CX_condition hC) (kcL_37 g.2.2.2.2 rfl rfl (Nat.le_of_ble_eq_true rfl) (Nat.le_of_ble_eq_true rfl)) rfl rfl (Nat.le_of_ble_eq_true rfl) dk_L_law_280 (pc' := 283) rfl ?_
  refine v_aload_n g dk_L_law_283 2 rfl rfl (pc' := 284) rfl ?_
  refine v_lawM (As := []) (rest := [.int r]) (T1 := T') (r := r) g hKM (fun _ h => h) (c_MX_condition hM) (kcL_40 g.2.2.2.2 rfl rfl (Nat.le_of_ble_eq_true rfl) (Nat.le_of_ble_eq_true rfl)) rfl rfl (Nat.le_of_ble_eq_true rfl) dk_L_law_284 (pc' := 287) rfl ?_
  refine v_icmp_eq (tgt := 918) (pc' := 290) g dk_L_law_287 (by decide) rfl (fun _ => ?_) (fun hne => absurd rfl hne)
  exact cont _ _ hR
def Op6 (Rel : StC → StM → Prop) : Prop := ∀ (S : StC) (T : StM) (a1 : Int32) (a2 : Int32) (a3 : Int32) (a4 : Int32), Rel S T → isB a2 = true → ∃ (r : Int32) (S' : StC) (T' : StM), m_CX_asks S a1 a2 a3 a4 = some (r, S') ∧ m_MX_asks T a1 a2 a3 a4 = some (r, T') ∧ Rel S' T'
set_option maxHeartbeats 4000000 in
set_option maxRecDepth 100000 in
theorem law_6 {Rel : StC → StM → Prop} (hop : Op6 Rel) {p : Program} {l : Launch} {e : Env} {s : State} {m : MethodId} {below : List Frame} {meth : Method} {c : Code} {D : va_G} {adC adM : Nat → Nat} {caC caM : Nat → ClassId} {b L : Nat} {xs : Nat → Int32} {x3 : Int32} {S : StC} {T : StM} (g : CallFix p m c code 4 s #[Value.ref b] tb RL) (hKC : va_K D vwCl (tyC caC) s) (hKM : va_K D vwCl (tyM caM) s) (hX : va_X b L xs s s.heap) (hbl : b < s.heap.size) (h1 : inb (x3 + 1) L = true) (h2 : inb (x3 + 2) L = true) (h3 : inb (x3 + 3) L = true) (h4 : inb (x3 + 4) L = true) (hRel : Rel S T) (cont : ∀ S T, Rel S T → Vj p l e room_1 s m #[Value.ref b] below meth c (lw_Z below #[Value.ref b] s) D vwCl (fun q : Nat => s.heap.size ≤ q) 4 65 8649 (wdC adC caC S ++ wdM adM caM T) 918 [(0, .ref b), (1, .ref (adC 0)), (2, .ref (adM 0)), (3, .int x3)] []) : Vj p l e room_1 s m #[Value.ref b] below meth c (lw_Z below #[Value.ref b] s) D vwCl (fun q : Nat => s.heap.size ≤ q) 4 65 8649 (wdC adC caC S ++ wdM adM caM T) 292 [(0, .ref b), (1, .ref (adC 0)), (2, .ref (adM 0)), (3, .int x3)] [] := by
  refine v_aload_n g dk_L_law_292 1 rfl rfl (pc' := 293) rfl ?_
  refine v_aload_n g dk_L_law_293 0 rfl rfl (pc' := 294) rfl ?_
  refine v_iload_n g dk_L_law_294 3 rfl rfl (pc' := 295) rfl ?_
  refine v_iconst (v := 1) g dk_L_law_295 (by decide) (pc' := 296) rfl ?_
  refine v_iadd g dk_L_law_296 (pc' := 297) rfl ?_
  refine v_sld g hX hbl (Nat.not_le.mpr hbl) h1 dk_L_law_297 (pc' := 298) rfl ?_
  refine v_aload_n g dk_L_law_298 0 rfl rfl (pc' := 299) rfl ?_
  refine v_iload_n g dk_L_law_299 3 rfl rfl (pc' := 300) rfl ?_
  refine v_iconst (v := 2) g dk_L_law_300 (by decide) (pc' := 301) rfl ?_
  refine v_iadd g dk_L_law_301 (pc' := 302) rfl ?_
  refine v_sld g hX hbl (Nat.not_le.mpr hbl) h2 dk_L_law_302 (pc' := 303) rfl ?_
  refine v_if_eq (tgt := 310) (pc' := 306) g dk_L_law_303 (by decide) rfl (fun hz => ?_) (fun hz => ?_)
  · have hz0 := hz
    refine v_iconst (v := 0) g dk_L_law_310 (by decide) (pc' := 311) rfl ?_
    refine v_aload_n g dk_L_law_311 0 rfl rfl (pc' := 312) rfl ?_
    refine v_iload_n g dk_L_law_312 3 rfl rfl (pc' := 313) rfl ?_
    refine v_iconst (v := 3) g dk_L_law_313 (by decide) (pc' := 314) rfl ?_
    refine v_iadd g dk_L_law_314 (pc' := 315) rfl ?_
    refine v_sld g hX hbl (Nat.not_le.mpr hbl) h3 dk_L_law_315 (pc' := 316) rfl ?_
    refine v_aload_n g dk_L_law_316 0 rfl rfl (pc' := 317) rfl ?_
    refine v_iload_n g dk_L_law_317 3 rfl rfl (pc' := 318) rfl ?_
    refine v_iconst (v := 4) g dk_L_law_318 (by decide) (pc' := 319) rfl ?_
    refine v_iadd g dk_L_law_319 (pc' := 320) rfl ?_
    refine v_sld g hX hbl (Nat.not_le.mpr hbl) h4 dk_L_law_320 (pc' := 321) rfl ?_
    obtain ⟨r, S', T', hC, hM, hR⟩ := hop S T (xs (x3 + 1).toNatClampNeg) 0 (xs (x3 + 3).toNatClampNeg) (xs (x3 + 4).toNatClampNeg) hRel rfl
    refine v_lawC (As := [.int (xs (x3 + 1).toNatClampNeg), .int 0, .int (xs (x3 + 3).toNatClampNeg), .int (xs (x3 + 4).toNatClampNeg)]) (rest := []) (S1 := S') (r := r) g hKC (fun _ h => h) (c_CX_asks hC) (kcL_41 g.2.2.2.2 rfl rfl (Nat.le_of_ble_eq_true rfl) (Nat.le_of_ble_eq_true rfl)) rfl rfl (Nat.le_of_ble_eq_true rfl) dk_L_law_321 (pc' := 324) rfl ?_
    refine v_aload_n g dk_L_law_324 2 rfl rfl (pc' := 325) rfl ?_
    refine v_aload_n g dk_L_law_325 0 rfl rfl (pc' := 326) rfl ?_
    refine v_iload_n g dk_L_law_326 3 rfl rfl (pc' := 327) rfl ?_
    refine v_iconst (v := 1) g dk_L_law_327 (by decide) (pc' := 328) rfl ?_
    refine v_iadd g dk_L_law_328 (pc' := 329) rfl ?_
    refine v_sld g hX hbl (Nat.not_le.mpr hbl) h1 dk_L_law_329 (pc' := 330) rfl ?_
    refine v_aload_n g dk_L_law_330 0 rfl rfl (pc' := 331) rfl ?_
    refine v_iload_n g dk_L_law_331 3 rfl rfl (pc' := 332) rfl ?_
    refine v_iconst (v := 2) g dk_L_law_332 (by decide) (pc' := 333) rfl ?_
    refine v_iadd g dk_L_law_333 (pc' := 334) rfl ?_
    refine v_sld g hX hbl (Nat.not_le.mpr hbl) h2 dk_L_law_334 (pc' := 335) rfl ?_
    refine v_if_eq (tgt := 342) (pc' := 338) g dk_L_law_335 (by decide) rfl (fun hz => ?_) (fun hz => ?_)
    · skip
      refine v_iconst (v := 0) g dk_L_law_342 (by decide) (pc' := 343) rfl ?_
      refine v_aload_n g dk_L_law_343 0 rfl rfl (pc' := 344) rfl ?_
      refine v_iload_n g dk_L_law_344 3 rfl rfl (pc' := 345) rfl ?_
      refine v_iconst (v := 3) g dk_L_law_345 (by decide) (pc' := 346) rfl ?_
      refine v_iadd g dk_L_law_346 (pc' := 347) rfl ?_
      refine v_sld g hX hbl (Nat.not_le.mpr hbl) h3 dk_L_law_347 (pc' := 348) rfl ?_
      refine v_aload_n g dk_L_law_348 0 rfl rfl (pc' := 349) rfl ?_
      refine v_iload_n g dk_L_law_349 3 rfl rfl (pc' := 350) rfl ?_
      refine v_iconst (v := 4) g dk_L_law_350 (by decide) (pc' := 351) rfl ?_
      refine v_iadd g dk_L_law_351 (pc' := 352) rfl ?_
      refine v_sld g hX hbl (Nat.not_le.mpr hbl) h4 dk_L_law_352 (pc' := 353) rfl ?_
      refine v_lawM (As := [.int (xs (x3 + 1).toNatClampNeg), .int 0, .int (xs (x3 + 3).toNatClampNeg), .int (xs (x3 + 4).toNatClampNeg)]) (rest := [.int r]) (T1 := T') (r := r) g hKM (fun _ h => h) (c_MX_asks hM) (kcL_45 g.2.2.2.2 rfl rfl (Nat.le_of_ble_eq_true rfl) (Nat.le_of_ble_eq_true rfl)) rfl rfl (Nat.le_of_ble_eq_true rfl) dk_L_law_353 (pc' := 356) rfl ?_
      refine v_icmp_eq (tgt := 918) (pc' := 359) g dk_L_law_356 (by decide) rfl (fun _ => ?_) (fun hne => absurd rfl hne)
      exact cont _ _ hR
    · exact absurd hz0 hz
  · have hz0 := hz
    refine v_iconst (v := 1) g dk_L_law_306 (by decide) (pc' := 307) rfl ?_
    refine v_goto (tgt := 311) g dk_L_law_307 (by decide) ?_
    refine v_aload_n g dk_L_law_311 0 rfl rfl (pc' := 312) rfl ?_
    refine v_iload_n g dk_L_law_312 3 rfl rfl (pc' := 313) rfl ?_
    refine v_iconst (v := 3) g dk_L_law_313 (by decide) (pc' := 314) rfl ?_
    refine v_iadd g dk_L_law_314 (pc' := 315) rfl ?_
    refine v_sld g hX hbl (Nat.not_le.mpr hbl) h3 dk_L_law_315 (pc' := 316) rfl ?_
    refine v_aload_n g dk_L_law_316 0 rfl rfl (pc' := 317) rfl ?_
    refine v_iload_n g dk_L_law_317 3 rfl rfl (pc' := 318) rfl ?_
    refine v_iconst (v := 4) g dk_L_law_318 (by decide) (pc' := 319) rfl ?_
    refine v_iadd g dk_L_law_319 (pc' := 320) rfl ?_
    refine v_sld g hX hbl (Nat.not_le.mpr hbl) h4 dk_L_law_320 (pc' := 321) rfl ?_
    obtain ⟨r, S', T', hC, hM, hR⟩ := hop S T (xs (x3 + 1).toNatClampNeg) 1 (xs (x3 + 3).toNatClampNeg) (xs (x3 + 4).toNatClampNeg) hRel rfl
    refine v_lawC (As := [.int (xs (x3 + 1).toNatClampNeg), .int 1, .int (xs (x3 + 3).toNatClampNeg), .int (xs (x3 + 4).toNatClampNeg)]) (rest := []) (S1 := S') (r := r) g hKC (fun _ h => h) (c_CX_asks hC) (kcL_41 g.2.2.2.2 rfl rfl (Nat.le_of_ble_eq_true rfl) (Nat.le_of_ble_eq_true rfl)) rfl rfl (Nat.le_of_ble_eq_true rfl) dk_L_law_321 (pc' := 324) rfl ?_
    refine v_aload_n g dk_L_law_324 2 rfl rfl (pc' := 325) rfl ?_
    refine v_aload_n g dk_L_law_325 0 rfl rfl (pc' := 326) rfl ?_
    refine v_iload_n g dk_L_law_326 3 rfl rfl (pc' := 327) rfl ?_
    refine v_iconst (v := 1) g dk_L_law_327 (by decide) (pc' := 328) rfl ?_
    refine v_iadd g dk_L_law_328 (pc' := 329) rfl ?_
    refine v_sld g hX hbl (Nat.not_le.mpr hbl) h1 dk_L_law_329 (pc' := 330) rfl ?_
    refine v_aload_n g dk_L_law_330 0 rfl rfl (pc' := 331) rfl ?_
    refine v_iload_n g dk_L_law_331 3 rfl rfl (pc' := 332) rfl ?_
    refine v_iconst (v := 2) g dk_L_law_332 (by decide) (pc' := 333) rfl ?_
    refine v_iadd g dk_L_law_333 (pc' := 334) rfl ?_
    refine v_sld g hX hbl (Nat.not_le.mpr hbl) h2 dk_L_law_334 (pc' := 335) rfl ?_
    refine v_if_eq (tgt := 342) (pc' := 338) g dk_L_law_335 (by decide) rfl (fun hz => ?_) (fun hz => ?_)
    · exact absurd hz hz0
    · skip
      refine v_iconst (v := 1) g dk_L_law_338 (by decide) (pc' := 339) rfl ?_
      refine v_goto (tgt := 343) g dk_L_law_339 (by decide) ?_
      refine v_aload_n g dk_L_law_343 0 rfl rfl (pc' := 344) rfl ?_
      refine v_iload_n g dk_L_law_344 3 rfl rfl (pc' := 345) rfl ?_
      refine v_iconst (v := 3) g dk_L_law_345 (by decide) (pc' := 346) rfl ?_
      refine v_iadd g dk_L_law_346 (pc' := 347) rfl ?_
      refine v_sld g hX hbl (Nat.not_le.mpr hbl) h3 dk_L_law_347 (pc' := 348) rfl ?_
      refine v_aload_n g dk_L_law_348 0 rfl rfl (pc' := 349) rfl ?_
      refine v_iload_n g dk_L_law_349 3 rfl rfl (pc' := 350) rfl ?_
      refine v_iconst (v := 4) g dk_L_law_350 (by decide) (pc' := 351) rfl ?_
      refine v_iadd g dk_L_law_351 (pc' := 352) rfl ?_
      refine v_sld g hX hbl (Nat.not_le.mpr hbl) h4 dk_L_law_352 (pc' := 353) rfl ?_
      refine v_lawM (As := [.int (xs (x3 + 1).toNatClampNeg), .int 1, .int (xs (x3 + 3).toNatClampNeg), .int (xs (x3 + 4).toNatClampNeg)]) (rest := [.int r]) (T1 := T') (r := r) g hKM (fun _ h => h) (c_MX_asks hM) (kcL_45 g.2.2.2.2 rfl rfl (Nat.le_of_ble_eq_true rfl) (Nat.le_of_ble_eq_true rfl)) rfl rfl (Nat.le_of_ble_eq_true rfl) dk_L_law_353 (pc' := 356) rfl ?_
      refine v_icmp_eq (tgt := 918) (pc' := 359) g dk_L_law_356 (by decide) rfl (fun _ => ?_) (fun hne => absurd rfl hne)
      exact cont _ _ hR
def Op7 (Rel : StC → StM → Prop) : Prop := ∀ (S : StC) (T : StM), Rel S T → ∃ (r : Int32) (S' : StC) (T' : StM), m_CX_target S = some (r, S') ∧ m_MX_target T = some (r, T') ∧ Rel S' T'
set_option maxHeartbeats 4000000 in
set_option maxRecDepth 100000 in
theorem law_7 {Rel : StC → StM → Prop} (hop : Op7 Rel) {p : Program} {l : Launch} {e : Env} {s : State} {m : MethodId} {below : List Frame} {meth : Method} {c : Code} {D : va_G} {adC adM : Nat → Nat} {caC caM : Nat → ClassId} {b L : Nat} {xs : Nat → Int32} {x3 : Int32} {S : StC} {T : StM} (g : CallFix p m c code 4 s #[Value.ref b] tb RL) (hKC : va_K D vwCl (tyC caC) s) (hKM : va_K D vwCl (tyM caM) s) (hX : va_X b L xs s s.heap) (hbl : b < s.heap.size) (h1 : inb (x3 + 1) L = true) (h2 : inb (x3 + 2) L = true) (h3 : inb (x3 + 3) L = true) (h4 : inb (x3 + 4) L = true) (hRel : Rel S T) (cont : ∀ S T, Rel S T → Vj p l e room_1 s m #[Value.ref b] below meth c (lw_Z below #[Value.ref b] s) D vwCl (fun q : Nat => s.heap.size ≤ q) 4 65 8649 (wdC adC caC S ++ wdM adM caM T) 918 [(0, .ref b), (1, .ref (adC 0)), (2, .ref (adM 0)), (3, .int x3)] []) : Vj p l e room_1 s m #[Value.ref b] below meth c (lw_Z below #[Value.ref b] s) D vwCl (fun q : Nat => s.heap.size ≤ q) 4 65 8649 (wdC adC caC S ++ wdM adM caM T) 361 [(0, .ref b), (1, .ref (adC 0)), (2, .ref (adM 0)), (3, .int x3)] [] := by
  refine v_aload_n g dk_L_law_361 1 rfl rfl (pc' := 362) rfl ?_
  obtain ⟨r, S', T', hC, hM, hR⟩ := hop S T hRel
  refine v_lawC (As := []) (rest := []) (S1 := S') (r := r) g hKC (fun _ h => h) (c_CX_target hC) (kcL_46 g.2.2.2.2 rfl rfl (Nat.le_of_ble_eq_true rfl) (Nat.le_of_ble_eq_true rfl)) rfl rfl (Nat.le_of_ble_eq_true rfl) dk_L_law_362 (pc' := 365) rfl ?_
  refine v_aload_n g dk_L_law_365 2 rfl rfl (pc' := 366) rfl ?_
  refine v_lawM (As := []) (rest := [.int r]) (T1 := T') (r := r) g hKM (fun _ h => h) (c_MX_target hM) (kcL_49 g.2.2.2.2 rfl rfl (Nat.le_of_ble_eq_true rfl) (Nat.le_of_ble_eq_true rfl)) rfl rfl (Nat.le_of_ble_eq_true rfl) dk_L_law_366 (pc' := 369) rfl ?_
  refine v_icmp_eq (tgt := 918) (pc' := 372) g dk_L_law_369 (by decide) rfl (fun _ => ?_) (fun hne => absurd rfl hne)
  exact cont _ _ hR
