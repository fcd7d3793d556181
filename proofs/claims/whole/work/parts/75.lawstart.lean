def S0C : StC := sL St0 0 0
def S0M : StM := sI St0 7 (-1)
set_option maxHeartbeats 8000000 in
set_option maxRecDepth 100000 in
theorem whole_open {Rel : StC → StM → Prop} (hop0 : Op0 Rel) (hop1 : Op1 Rel) (hop2 : Op2 Rel) (hop3 : Op3 Rel) (hop4 : Op4 Rel) (hop5 : Op5 Rel) (hop6 : Op6 Rel) (hop7 : Op7 Rel) (hop8 : Op8 Rel) (hop9 : Op9 Rel) (hop10 : Op10 Rel) (hop11 : Op11 Rel) (hop12 : Op12 Rel) (hop13 : Op13 Rel) (hop14 : Op14 Rel) (hop15 : Op15 Rel) (hop16 : Op16 Rel) (hop17 : Op17 Rel) (hop18 : Op18 Rel) (hop19 : Op19 Rel) (hop20 : Op20 Rel) (hop21 : Op21 Rel) (hop22 : Op22 Rel) (hop23 : Op23 Rel) (hR0 : Rel S0C S0M) {p : Program} {e : Env} {s : State} {m : MethodId} {below : List Frame} {meth : Method} {c : Code} (l : Launch) {b L : Nat} {xs : Nat → Int32} (hL : L ≤ 2560) (C0 : lw_At p s m meth c b L xs) : W p l e room_1 s m #[Value.ref b] below meth c s.heap [] 0 0 (lw_Z below #[Value.ref b] s) (entryFrame m ([Value.ref b] : List Value).toArray 4) := by
  obtain ⟨hx, hb, hr, hml, hown, hts, hX, hbl, hlocks, hgv⟩ := id C0
  have g : CallFix p m c code 4 s #[Value.ref b] tb RL := ⟨hx, hb, hml, hown, fun w hw => hts w (List.mem_filter.mp hw).1⟩
  obtain ⟨cc0, iS0, hKn0⟩ := u_known (C := Rk_0) (T := Fk_0) (N := 9) (n := 9) g.2.2.2.2 ik_0 (g.2.2.2.2 _ (tb_1 15 rfl rfl))
  obtain ⟨cc1, iS1, hKn1⟩ := u_known (C := Rk_1) (T := Fk_1) (N := 44) (n := 44) g.2.2.2.2 ik_1 (g.2.2.2.2 _ (tb_3 125 rfl rfl))
  obtain ⟨cc2, iS2, hKn2⟩ := u_known (C := Rk_5) (T := Fk_5) (N := 4) (n := 4) g.2.2.2.2 ik_5 (g.2.2.2.2 _ (tb_1 74 rfl rfl))
  obtain ⟨cc3, iS3, hKn3⟩ := u_known (C := Rk_6) (T := Fk_6) (N := 2) (n := 2) g.2.2.2.2 ik_6 (g.2.2.2.2 _ (tb_1 59 rfl rfl))
  obtain ⟨cc4, iS4, hKn4⟩ := u_known (C := Rk_7) (T := Fk_7) (N := 6) (n := 6) g.2.2.2.2 ik_7 (g.2.2.2.2 _ (tb_1 155 rfl rfl))
  obtain ⟨cc5, iS5, hKn5⟩ := u_known (C := Rk_8) (T := Fk_8) (N := 5) (n := 5) g.2.2.2.2 ik_8 (g.2.2.2.2 _ (tb_1 184 rfl rfl))
  obtain ⟨cc6, iS6, hKn6⟩ := u_known (C := Rk_9) (T := Fk_9) (N := 2) (n := 2) g.2.2.2.2 ik_9 (g.2.2.2.2 _ (tb_1 46 rfl rfl))
  obtain ⟨cc7, iS7, hKn7⟩ := u_known (C := Rk_10) (T := Fk_10) (N := 9) (n := 9) g.2.2.2.2 ik_10 (g.2.2.2.2 _ (tb_1 115 rfl rfl))
  obtain ⟨cc8, iS8, hKn8⟩ := u_known (C := Rk_11) (T := Fk_11) (N := 4) (n := 4) g.2.2.2.2 ik_11 (g.2.2.2.2 _ (tb_1 23 rfl rfl))
  obtain ⟨cc9, iS9, hKn9⟩ := u_known (C := Rk_12) (T := Fk_12) (N := 3) (n := 3) g.2.2.2.2 ik_12 (g.2.2.2.2 _ (tb_1 96 rfl rfl))
  obtain ⟨D, hKc⟩ : ∃ D : va_G, ∀ (k : Nat) (q : vw_C), vwCl[k]? = some q → u_Kn s q.1 q.2.1 q.2.2 (D.1 k) (D.2 k) := by
    refine ⟨(fun k => [cc0, cc1, cc2, cc3, cc4, cc5, cc6, cc7, cc8, cc9].getD k 0, fun k => [iS0, iS1, iS2, iS3, iS4, iS5, iS6, iS7, iS8, iS9].getD k (fun _ => 0)), ?_⟩
    intro k q hq
    match k, hq with
    | 0, hq => cases hq; exact hKn0
    | 1, hq => cases hq; exact hKn1
    | 2, hq => cases hq; exact hKn2
    | 3, hq => cases hq; exact hKn3
    | 4, hq => cases hq; exact hKn4
    | 5, hq => cases hq; exact hKn5
    | 6, hq => cases hq; exact hKn6
    | 7, hq => cases hq; exact hKn7
    | 8, hq => cases hq; exact hKn8
    | 9, hq => cases hq; exact hKn9
    | k + 10, hq => simp [vwCl] at hq
  have hK : va_K D vwCl [] s := ⟨hKc, fun k q h => by simp at h⟩
  have hP : va_P D vwCl [] s.heap := fun k q h => by simp at h
  have hD : va_D (fun q : Nat => s.heap.size ≤ q) [] := ⟨fun i j p q h => by simp at h, fun k q h => by simp at h⟩
  have hl := lv_entry ([.ref b]) (n := 4) (Nat.le_of_ble_eq_true rfl)
  rw [lg_entry_eq]
  refine (?_ : Vj p l e room_1 s m #[Value.ref b] below meth c (lw_Z below #[Value.ref b] s) D vwCl (fun q : Nat => s.heap.size ≤ q) 4 0 0 [] 0 [(0, .ref b)] []) s.heap [] _ hP hD va_S.rf hl
  have hA : ∀ q : Nat, s.heap.size ≤ q → (fun q : Nat => s.heap.size ≤ q) q := fun _ h => h
  refine v_new (ci := 0) (fs := [.null, .null, .null, .null, .null, .null, .null, .null, .long 0]) g ik_0 tk_0 tk_0_ok (tb_1 14 rfl rfl) (tb_1 15 rfl rfl) (tb_1 1 rfl rfl) hK hA rfl (by decide) (Nat.le_of_ble_eq_true rfl) (Nat.le_of_ble_eq_true rfl) dk_L_law_0 (pc' := 3) rfl (fun q0 => ?_)
  refine v_dup g dk_L_law_3 rfl (pc' := 4) rfl ?_
  refine v_ctor (Pn := nest_C) (wr := []) (rest := [.ref q0]) g hK hA (fun sz => c_CX_init sz) ⟨cB 0 g.2.2.2.2 (tb_1 16 rfl rfl) (tb_1 1 rfl rfl) (tb_1 18 rfl rfl) rfl rfl (by decide +kernel) (Nat.le_of_ble_eq_true rfl) (Nat.le_of_ble_eq_true rfl), rfl, g.2.2.2.2 _ (tb_1 17 rfl rfl)⟩ (fun U g9 mk a h => by unfold nest_C at h ⊢; exact ⟨va_Nw.same (u := U) rfl rfl h.1, va_Nw.same (u := U) rfl rfl h.2.1, va_Nw.same (u := U) rfl rfl h.2.2.1, va_Nw.same (u := U) rfl rfl h.2.2.2.1, va_Nw.same (u := U) rfl rfl h.2.2.2.2.1, va_Nw.same (u := U) rfl rfl h.2.2.2.2.2.1, va_Nw.same (u := U) rfl rfl h.2.2.2.2.2.2.1, va_Nw.same (u := U) rfl rfl h.2.2.2.2.2.2.2.1, trivial⟩) (fun U hW => by unfold nest_C; exact ⟨va_Nw.warmM hW (va_Nw.of rfl (hts _ (tl_1 24 rfl))), va_Nw.warmM hW (va_Nw.of rfl (hts _ (tl_1 47 rfl))), va_Nw.warmM hW (va_Nw.of rfl (hts _ (tl_1 60 rfl))), va_Nw.warmM hW (va_Nw.of rfl (hts _ (tl_1 75 rfl))), va_Nw.warmM hW (va_Nw.of rfl (hts _ (tl_1 97 rfl))), va_Nw.warmM hW (va_Nw.of rfl (hts _ (tl_1 116 rfl))), va_Nw.warmM hW (va_Nw.of rfl (hts _ (tl_1 156 rfl))), va_Nw.warmM hW (va_Nw.of rfl (hts _ (tl_1 185 rfl))), trivial⟩) 0 [] rfl rfl rfl (by decide) (Nat.le_of_ble_eq_true rfl) dk_L_law_4 (Nat.le_of_ble_eq_true rfl) (Nat.le_of_ble_eq_true rfl) (pc' := 7) rfl (fun u0 hK => ?_)
  refine v_astore_n (lv' := [(1, .ref q0), (0, .ref b)]) g dk_L_law_7 rfl (by decide) rfl (pc' := 8) rfl ?_
  refine v_new (ci := 1) (fs := [.int 0, .int 0, .int 0, .int 0, .int 0, .int 0, .int 0, .null, .null, .null, .null, .null, .null, .null, .null, .null, .null, .null, .null, .null, .null, .null, .null, .null, .null, .null, .null, .null, .null, .null, .null, .int 0, .int 0, .int 0, .int 0, .int 0, .int 0, .int 0, .int 0, .int 0, .null, .null, .null, .null]) g ik_1 tk_1 tk_1_ok (tb_3 124 rfl rfl) (tb_3 125 rfl rfl) (tb_1 11 rfl rfl) hK hA rfl (by decide) (Nat.le_of_ble_eq_true rfl) (Nat.le_of_ble_eq_true rfl) dk_L_law_8 (pc' := 11) rfl (fun q1 => ?_)
  refine v_dup g dk_L_law_11 rfl (pc' := 12) rfl ?_
  refine v_ctor (Pn := (fun _ => True)) (wr := wdC (va_up u0.1 0 q0) u0.2 (sL St0 0 0)) (rest := [.ref q1]) g hK hA (fun sz => c_MX_init sz) ⟨cB 0 g.2.2.2.2 (tb_3 126 rfl rfl) (tb_1 11 rfl rfl) (tb_3 128 rfl rfl) rfl rfl (by decide +kernel) (Nat.le_of_ble_eq_true rfl) (Nat.le_of_ble_eq_true rfl), rfl, g.2.2.2.2 _ (tb_3 127 rfl rfl)⟩ (fun _ _ _ _ h => h) (fun _ _ => trivial) 36 [0, 1, 2, 3, 4, 5, 6, 7, 8, 9, 10, 11, 12, 13, 14, 15, 16, 17, 18, 19, 20, 21, 22, 23, 24, 25, 26, 27, 28, 29, 30, 31, 32, 33, 34, 35] rfl rfl rfl (by decide) (Nat.le_of_ble_eq_true rfl) dk_L_law_12 (Nat.le_of_ble_eq_true rfl) (Nat.le_of_ble_eq_true rfl) (pc' := 15) rfl (fun u1 hK => ?_)
  refine v_astore_n (lv' := [(2, .ref q1), (1, .ref q0), (0, .ref b)]) g dk_L_law_15 rfl (by decide) rfl (pc' := 16) rfl ?_
  refine v_iconst (v := 0) g dk_L_law_16 (by decide) (pc' := 17) rfl ?_
  refine v_istore_n (lv' := [(3, .int 0), (2, .ref q1), (1, .ref q0), (0, .ref b)]) g dk_L_law_17 rfl (by decide) rfl (pc' := 18) rfl ?_
  refine v_widen (k' := 65) (n' := 8649) (Nat.le_of_ble_eq_true rfl) (Nat.le_of_ble_eq_true rfl) ?_
  refine v_ws (ws' := wdC (va_up u0.1 0 q0) u0.2 S0C ++ wdM (fun k => if k = 0 then q1 else u1.1 (k - 1)) (fun k => u1.2 (k - 1)) S0M) rfl ?_
  refine v_sub [3, 2, 1, 0] rfl ?_
  have hKC : va_K D vwCl (tyC u0.2) s := hK.sub [0, 1, 2, 3, 4, 5, 6, 7, 8, 9, 10, 11, 12, 13, 14, 15, 16, 17, 18, 19, 20, 21, 22, 23, 24, 25, 26] rfl
  have hKM : va_K D vwCl (tyM (fun k => u1.2 (k - 1))) s := hK.sub [27, 28, 29, 30, 31, 32, 33, 34, 35, 36, 37, 38, 39, 40, 41, 42, 43, 44, 45, 46, 47, 48, 49, 50, 51, 52, 53, 54] rfl
  exact law_loop hop0 hop1 hop2 hop3 hop4 hop5 hop6 hop7 hop8 hop9 hop10 hop11 hop12 hop13 hop14 hop15 hop16 hop17 hop18 hop19 hop20 hop21 hop22 hop23 hL g hr hlocks hKC hKM hX hbl (L + 1) 0 0 S0C S0M (by omega) (Nat.zero_le L) nI_0.symm hR0
