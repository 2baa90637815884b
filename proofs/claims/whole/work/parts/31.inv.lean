/-! ===== THE INVARIANT: the class's cells beside the reference's ===== -/
/-- a byte of the reference's, the sign's number -/
def by_ok (x : Int32) (c : Nat) : Prop := c < 256 ∧ x &&& 255 = nI c ∧ (c < 128 → x = nI c) ∧ (128 ≤ c → x < 0) ∧ x.toInt8.toInt32 = x
def iv_text (M : fd_M) : Prop := ∃ t : Nat, t ≤ 80 ∧ M.1 1 1 = nI t ∧ M.1 182 14 = nI t ∧ ∀ i, i < t → ∃ c : Nat, by_ok (M.1 189 i) c ∧ M.1 2 i = nI c
def iv_row (M : fd_M) : Prop := ∃ n : Nat, n ≤ 16 ∧ M.1 3 1 = nI n ∧ M.1 182 16 = nI n ∧ ∀ i, i < n → M.2 4 i = M.2 190 i
/-- roads and shortest ways between v villages -/
def iv_met (v : Nat) (R D : Nat → Nat → Nat) : Prop :=
  (∀ a b, a < v → b < v → R a b ≤ 1000000 ∧ D a b ≤ 1000000 ∧ R a b = R b a ∧ D a b = D b a) ∧ (∀ a, a < v → R a a = 0 ∧ D a a = 0) ∧ (∀ a b, a < v → b < v → a ≠ b → 1 ≤ R a b ∧ 1 ≤ D a b ∧ D a b ≤ R a b) ∧
  (∀ a b c, a < v → b < v → c < v → D a b ≤ D a c + D c b) ∧ ∀ a b, a < v → b < v → a ≠ b → D a b < 1000000 → ∃ x, x < v ∧ x ≠ a ∧ R a x < 1000000 ∧ R a x + D x b = D a b
/-- the roads that the first k lines told -/
def iv_rd (o t x : Nat → Nat) : Nat → Nat → Nat → Nat
  | 0, a, b => if a = b then 0 else 1000000
  | k + 1, a, b => if (a = o k ∧ b = t k) ∨ (a = t k ∧ b = o k) then min (iv_rd o t x k (o k) (t k)) (x k) else iv_rd o t x k a b
/-- ways: what the class and the reference both know of them -/
def iv_ways (v : Nat) (R D : Nat → Nat → Nat) (M : fd_M) : Prop := ∀ a b, a < v → b < v → M.1 (a + 11) b = nI (R a b) ∧ M.1 185 (9 * a + b) = nI (R a b) ∧ M.1 (a + 21) b = nI (D a b) ∧ M.1 193 (9 * a + b) = nI (D a b)
def iv_land (v : Nat) (R D : Nat → Nat → Nat) (M : fd_M) : Prop := v ≤ 9 ∧ M.1 5 0 = nI v ∧ M.1 182 1 = nI v ∧ (∀ i, i < v → M.1 6 i = M.1 184 i) ∧
  (∃ (r : Nat) (o t x : Nat → Nat), r ≤ 24 ∧ M.1 5 1 = nI r ∧ M.1 182 3 = nI r ∧ (∀ k, k < r → o k < v ∧ t k < v ∧ o k ≠ t k ∧ 1 ≤ x k ∧ x k ≤ 99 ∧ M.1 7 k = nI (o k) ∧ M.1 8 k = nI (t k) ∧ M.1 9 k = nI (x k)) ∧ ∀ a b, a < 9 → b < 9 → M.1 185 (9 * a + b) = nI (iv_rd o t x r a b)) ∧
  iv_met v R D ∧ iv_ways v R D M
/-- feasts: where, bid, tunes -/
def iv_fairs (v f : Nat) (A B U : Nat → Nat) (M : fd_M) : Prop := f ≤ 8 ∧ M.1 31 0 = nI f ∧ M.1 182 5 = nI f ∧ ∀ i, i < f → A i < v ∧ B i ≤ 99 ∧ 1 ≤ U i ∧ U i ≤ 9 ∧ M.1 32 i = nI (A i) ∧ M.1 186 i = nI (A i) ∧ M.1 33 i = nI (B i) ∧ M.1 187 i = nI (B i) ∧ M.1 34 i = nI (U i) ∧ M.1 188 i = nI (U i)
def iv_sky (M : fd_M) : Prop := ∃ re mo lf lt : Nat, 1 ≤ re ∧ re ≤ 99 ∧ mo ≤ 30 ∧ lf ≤ 99 ∧ lt ≤ 99 ∧ M.1 30 0 = nI re ∧ M.1 182 9 = nI re ∧ M.1 30 1 = nI mo ∧ M.1 182 10 = nI mo ∧ M.1 30 2 = nI lf ∧ M.1 182 11 = nI lf ∧ M.1 30 3 = nI lt ∧ M.1 182 12 = nI lt
/-- a story: night, place, strings, feasts played, wear; tiredness, coins; the feasts' spans -/
def sto : Type := (Nat) × (Nat) × (Nat) × (Nat) × (Nat) × (Int32) × (Int32) × (Nat → Nat) × (Nat → Nat)
def sto.n (S : sto) : Nat := S.1
def sto.a (S : sto) : Nat := S.2.1
def sto.s (S : sto) : Nat := S.2.2.1
def sto.pl (S : sto) : Nat := S.2.2.2.1
def sto.w (S : sto) : Nat := S.2.2.2.2.1
def sto.T (S : sto) : Int32 := S.2.2.2.2.2.1
def sto.C (S : sto) : Int32 := S.2.2.2.2.2.2.1
def sto.X (S : sto) : Nat → Nat := S.2.2.2.2.2.2.2.1
def sto.Y (S : sto) : Nat → Nat := S.2.2.2.2.2.2.2.2
def sto.mk (n : Nat) (a : Nat) (s : Nat) (pl : Nat) (w : Nat) (T : Int32) (C : Int32) (X : Nat → Nat) (Y : Nat → Nat) : sto := (n, a, s, pl, w, T, C, X, Y)
def sok (v f nb : Nat) (S : sto) : Prop := S.n ≤ nb ∧ (S.a < v ∨ S.a = 0) ∧ S.s ≤ 4 ∧ S.pl < 2 ^ f ∧ S.w ≤ 72 * S.n ∧ ∀ i, i < f → S.X i ≤ S.Y i ∧ S.Y i ≤ 99
/-- it stands at the class's cell k -/
def cst (f k : Nat) (S : sto) (M : fd_M) : Prop := M.1 k 0 = nI S.n ∧ M.1 k 1 = nI S.a ∧ M.1 k 2 = S.T ∧ M.1 k 3 = S.C ∧ M.1 k 4 = nI S.s ∧ M.1 k 5 = nI S.w ∧ M.1 k 6 = nI S.pl ∧ ∀ i, i < f → M.1 (k + 1) i = nI (S.X i) ∧ M.1 (k + 2) i = nI (S.Y i)
/-- it stands at the reference's cell c from place o on -/
def mst (f c o : Nat) (S : sto) (M : fd_M) : Prop := M.1 c (o + 5) = nI S.n ∧ M.1 c (o + 0) = nI S.a ∧ M.1 c (o + 1) = S.T ∧ M.1 c (o + 2) = S.C ∧ M.1 c (o + 3) = nI S.s ∧ M.1 c (o + 4) = nI S.w ∧ M.1 c (o + 6) = nI S.pl ∧ ∀ i, i < f → M.1 c (o + (7 + i)) = nI (S.X i) ∧ M.1 c (o + (15 + i)) = nI (S.Y i)
def iv_st (v f nb k c o : Nat) (M : fd_M) : Prop := ∃ S : sto, sok v f nb S ∧ cst f k S M ∧ mst f c o S M
def iv_past (v f nb : Nat) (M : fd_M) : Prop := ∃ fi n : Nat, fi < 12 ∧ n ≤ 12 ∧ M.1 48 1 = nI fi ∧ M.1 48 2 = nI n ∧ M.1 182 34 = nI n ∧ ∀ i, i < n → iv_st v f nb (52 + 3 * ((fi + i) % 12)) 197 (23 * i) M
def iv_kept (v f nb : Nat) (M : fd_M) : Prop := ∃ cm : Nat, cm ≤ nb ∧ M.1 182 58 = nI cm ∧ ∀ i, i < 2 → (M.1 215 i = 0 ∨ M.1 215 i = 1) ∧ (∃ kc : Nat, kc ≤ cm ∧ M.1 216 i = nI kc) ∧ M.1 51 i = (if M.1 215 i = 1 ∧ M.1 216 i = M.1 182 58 then 1 else 0) ∧ (M.1 51 i = 1 → iv_st v f nb (88 + 3 * i) 214 (23 * i) M)
/-- a tune's length, where it was heard, its notes -/
def iv_songs (v n : Nat) (L H : Nat → Nat) (N : Nat → Nat → Nat) (M : fd_M) : Prop := n ≤ 8 ∧ M.1 156 0 = nI n ∧ M.1 182 53 = nI n ∧ ∀ t, t < n → 1 ≤ L t ∧ L t ≤ 12 ∧ H t < v ∧ M.1 167 t = nI (L t) ∧ M.1 208 t = nI (L t) ∧ M.1 168 t = nI (H t) ∧ M.1 209 t = nI (H t) ∧ ∀ i, i < L t → N t i < 7 ∧ M.1 (t + 158) i = nI (N t i) ∧ M.1 207 (12 * t + i) = nI (N t i + 97)
/-! each part of it rests on its own places -/
def fd_eq (i : Nat) (M M' : fd_M) : Prop := ∀ k j, cl k j = i → M'.1 k j = M.1 k j ∧ M'.2 k j = M.2 k j
theorem fd_sm.eq {S : List Nat} {M M' : fd_M} (h : fd_sm S M M') {i : Nat} (hi : ¬ i ∈ S) : fd_eq i M M' := fun k j hk => h k j (by rw [hk]; exact hi)
theorem iv_text_cg {M M' : fd_M} (h : iv_text M) (e : fd_eq 1 M M') : iv_text M' := by
  obtain ⟨t, h1, h2, h3, h4⟩ := h
  refine ⟨t, h1, by rw [(e 1 1 rfl).1]; exact h2, by rw [(e 182 14 rfl).1]; exact h3, fun i hi => ?_⟩
  rw [(e 189 i rfl).1, (e 2 i rfl).1]
  exact h4 i hi
theorem iv_row_cg {M M' : fd_M} (h : iv_row M) (e : fd_eq 2 M M') : iv_row M' := by
  obtain ⟨t, h1, h2, h3, h4⟩ := h
  refine ⟨t, h1, by rw [(e 3 1 rfl).1]; exact h2, by rw [(e 182 16 rfl).1]; exact h3, fun i hi => ?_⟩
  rw [(e 4 i rfl).2, (e 190 i rfl).2]
  exact h4 i hi
theorem cl_ways {a b : Nat} (h : a < 9) : cl (a + 11) b = 3 ∧ cl (a + 21) b = 3 := by
  unfold cl
  constructor <;> (repeat rw [if_neg (by omega)]) <;> rw [if_pos (by omega)]
theorem iv_land_cg {v : Nat} {R D : Nat → Nat → Nat} {M M' : fd_M} (h : iv_land v R D M) (e : fd_eq 3 M M') : iv_land v R D M' := by
  obtain ⟨a1, a2, a3, a4, ⟨r, o, t, x, b1, b2, b3, b4, b5⟩, a6, a7⟩ := h
  refine ⟨a1, by rw [(e 5 0 rfl).1]; exact a2, by rw [(e 182 1 rfl).1]; exact a3, fun i hi => by rw [(e 6 i rfl).1, (e 184 i rfl).1]; exact a4 i hi, ⟨r, o, t, x, b1, by rw [(e 5 1 rfl).1]; exact b2, by rw [(e 182 3 rfl).1]; exact b3, fun k hk => ?_, fun a b ha hb => by rw [(e 185 _ rfl).1]; exact b5 a b ha hb⟩, a6, fun a b ha hb => ?_⟩
  · rw [(e 7 k rfl).1, (e 8 k rfl).1, (e 9 k rfl).1]
    exact b4 k hk
  · have hc := cl_ways (a := a) (b := b) (by omega)
    rw [(e (a + 11) b hc.1).1, (e (a + 21) b hc.2).1, (e 185 _ rfl).1, (e 193 _ rfl).1]
    exact a7 a b ha hb
theorem iv_fairs_cg {v f : Nat} {A B U : Nat → Nat} {M M' : fd_M} (h : iv_fairs v f A B U M) (e : fd_eq 4 M M') : iv_fairs v f A B U M' := by
  obtain ⟨a1, a2, a3, a4⟩ := h
  refine ⟨a1, by rw [(e 31 0 rfl).1]; exact a2, by rw [(e 182 5 rfl).1]; exact a3, fun i hi => ?_⟩
  rw [(e 32 i rfl).1, (e 33 i rfl).1, (e 34 i rfl).1, (e 186 i rfl).1, (e 187 i rfl).1, (e 188 i rfl).1]
  exact a4 i hi
theorem iv_sky_cg {M M' : fd_M} (h : iv_sky M) (e : fd_eq 5 M M') : iv_sky M' := by
  unfold iv_sky
  rw [(e 30 0 rfl).1, (e 30 1 rfl).1, (e 30 2 rfl).1, (e 30 3 rfl).1, (e 182 9 rfl).1, (e 182 10 rfl).1, (e 182 11 rfl).1, (e 182 12 rfl).1]
  exact h
theorem sok.up {v f nb nb' : Nat} {S : sto} (h : sok v f nb S) (hn : nb ≤ nb') : sok v f nb' S := ⟨Nat.le_trans h.1 hn, h.2⟩
theorem cst.cg {f k k' : Nat} {S : sto} {M M' : fd_M} (h : cst f k S M) (hf : f ≤ 8) (h1 : ∀ i, i < 7 → M'.1 k' i = M.1 k i) (h2 : ∀ i, i < 8 → M'.1 (k' + 1) i = M.1 (k + 1) i) (h3 : ∀ i, i < 8 → M'.1 (k' + 2) i = M.1 (k + 2) i) : cst f k' S M' := by
  obtain ⟨b1, b2, b3, b4, b5, b6, b7, b8⟩ := h
  exact ⟨by rw [h1 0 (by omega)]; exact b1, by rw [h1 1 (by omega)]; exact b2, by rw [h1 2 (by omega)]; exact b3, by rw [h1 3 (by omega)]; exact b4, by rw [h1 4 (by omega)]; exact b5, by rw [h1 5 (by omega)]; exact b6, by rw [h1 6 (by omega)]; exact b7, fun i hi => ⟨by rw [h2 i (by omega)]; exact (b8 i hi).1, by rw [h3 i (by omega)]; exact (b8 i hi).2⟩⟩
theorem mst.cg {f c c' o o' : Nat} {S : sto} {M M' : fd_M} (h : mst f c o S M) (hf : f ≤ 8) (h4 : ∀ i, i < 23 → M'.1 c' (o' + i) = M.1 c (o + i)) : mst f c' o' S M' := by
  obtain ⟨b1, b2, b3, b4, b5, b6, b7, b8⟩ := h
  exact ⟨by rw [h4 5 (by omega)]; exact b1, by rw [h4 0 (by omega)]; exact b2, by rw [h4 1 (by omega)]; exact b3, by rw [h4 2 (by omega)]; exact b4, by rw [h4 3 (by omega)]; exact b5, by rw [h4 4 (by omega)]; exact b6, by rw [h4 6 (by omega)]; exact b7, fun i hi => ⟨by rw [h4 (7 + i) (by omega)]; exact (b8 i hi).1, by rw [h4 (15 + i) (by omega)]; exact (b8 i hi).2⟩⟩
theorem iv_st_cg {v f nb k c o k' c' o' nb' : Nat} {M M' : fd_M} (h : iv_st v f nb k c o M) (hn : nb ≤ nb') (hf : f ≤ 8) (h1 : ∀ i, i < 7 → M'.1 k' i = M.1 k i) (h2 : ∀ i, i < 8 → M'.1 (k' + 1) i = M.1 (k + 1) i) (h3 : ∀ i, i < 8 → M'.1 (k' + 2) i = M.1 (k + 2) i) (h4 : ∀ i, i < 23 → M'.1 c' (o' + i) = M.1 c (o + i)) : iv_st v f nb' k' c' o' M' := by
  obtain ⟨S, a1, a2, a3⟩ := h
  exact ⟨S, a1.up hn, a2.cg hf h1 h2 h3, a3.cg hf h4⟩
theorem cl_42 {i : Nat} (h : i < 7) : cl 42 i = 7 := by
  show (if i = 7 then 0 else 7) = 7
  rw [if_neg (by omega)]
theorem iv_now_cg {v f nb nb' : Nat} {M M' : fd_M} (h : iv_st v f nb 42 183 0 M) (hf : f ≤ 8) (hn : nb ≤ nb') (e : fd_eq 7 M M') : iv_st v f nb' 42 183 0 M' := iv_st_cg h hn hf (fun i hi => (e 42 i (cl_42 hi)).1) (fun i _ => (e 43 i rfl).1) (fun i _ => (e 44 i rfl).1) (fun i _ => (e 183 _ rfl).1)
theorem cl_past {k j : Nat} (h : 52 ≤ k) (h2 : k ≤ 87) : cl k j = 8 := by
  unfold cl
  (repeat rw [if_neg (by omega)])
  rw [if_pos (by omega)]
theorem cl_kept {k j : Nat} (h : 88 ≤ k) (h2 : k ≤ 93) : cl k j = 9 := by
  unfold cl
  (repeat rw [if_neg (by omega)])
  rw [if_pos (by omega)]
theorem cl_tune {k j : Nat} (h : 158 ≤ k) (h2 : k ≤ 165) : cl k j = 10 := by
  unfold cl
  (repeat rw [if_neg (by omega)])
  rw [if_pos (by omega)]
theorem iv_past_cg {v f nb nb' : Nat} {M M' : fd_M} (h : iv_past v f nb M) (hf : f ≤ 8) (hn : nb ≤ nb') (e : fd_eq 8 M M') : iv_past v f nb' M' := by
  obtain ⟨fi, n, a1, a2, a3, a4, a5, a6⟩ := h
  refine ⟨fi, n, a1, a2, by rw [(e 48 1 rfl).1]; exact a3, by rw [(e 48 2 rfl).1]; exact a4, by rw [(e 182 34 rfl).1]; exact a5, fun i hi => ?_⟩
  have hm : (fi + i) % 12 < 12 := Nat.mod_lt _ (by omega)
  exact iv_st_cg (a6 i hi) hn hf (fun j _ => (e _ j (cl_past (by omega) (by omega))).1) (fun j _ => (e _ j (cl_past (by omega) (by omega))).1) (fun j _ => (e _ j (cl_past (by omega) (by omega))).1) (fun j _ => (e 197 _ rfl).1)
theorem iv_kept_cg {v f nb nb' : Nat} {M M' : fd_M} (h : iv_kept v f nb M) (hf : f ≤ 8) (hn : nb ≤ nb') (e : fd_eq 9 M M') : iv_kept v f nb' M' := by
  obtain ⟨cm, a1, a2, a3⟩ := h
  refine ⟨cm, by omega, by rw [(e 182 58 rfl).1]; exact a2, fun i hi => ?_⟩
  obtain ⟨b1, b2, b3, b4⟩ := a3 i hi
  rw [(e 215 i rfl).1, (e 216 i rfl).1, (e 51 i rfl).1, (e 182 58 rfl).1]
  exact ⟨b1, b2, b3, fun z => iv_st_cg (b4 z) hn hf (fun j _ => (e _ j (cl_kept (by omega) (by omega))).1) (fun j _ => (e _ j (cl_kept (by omega) (by omega))).1) (fun j _ => (e _ j (cl_kept (by omega) (by omega))).1) (fun j _ => (e 214 _ rfl).1)⟩
theorem cl_167 {t : Nat} (h : t < 8) : cl 167 t = 10 := by
  show (if t < 8 then 10 else 0) = 10
  rw [if_pos h]
theorem iv_songs_cg {v n : Nat} {L H : Nat → Nat} {N : Nat → Nat → Nat} {M M' : fd_M} (h : iv_songs v n L H N M) (e : fd_eq 10 M M') : iv_songs v n L H N M' := by
  obtain ⟨a1, a2, a3, a4⟩ := h
  refine ⟨a1, by rw [(e 156 0 rfl).1]; exact a2, by rw [(e 182 53 rfl).1]; exact a3, fun t ht => ?_⟩
  obtain ⟨b1, b2, b3, b4, b5, b6, b7, b8⟩ := a4 t ht
  refine ⟨b1, b2, b3, by rw [(e 167 t (cl_167 (by omega))).1]; exact b4, by rw [(e 208 t rfl).1]; exact b5, by rw [(e 168 t rfl).1]; exact b6, by rw [(e 209 t rfl).1]; exact b7, fun i hi => ?_⟩
  rw [(e (t + 158) i (cl_tune (by omega) (by omega))).1, (e 207 _ rfl).1]
  exact b8 i hi
/-! THE RULE: read by descent into the codes of the class; codes worked out on a stack -/
def ru_dig (c : Int32) : Bool := decide (48 ≤ c) && decide (c ≤ 57)
def ru_let (c : Int32) : Int32 := if c = 109 then 0 else if c = 116 then 1 else if c = 102 then 2 else if c = 100 then 3 else if c = 110 then 4 else if c = 115 then 5 else -1
def ru_num (ch : Nat → Int32) (l : Nat) : Nat → Nat → Int32 → Int32 × Nat
  | 0, p, v => (v, p)
  | d + 1, p, v => if p < l ∧ ru_dig (ch p) = true then ru_num ch l d (p + 1) (10 * v + (ch p - 48)) else (v, p)
/-- kinds: 0 held, 1 sum, 2 product, 3 thing, 4 what goes on behind a part of a sum, 5 of a product; an error's place, or codes (behind those that are given) and place -/
def ru_rd (ch : Nat → Int32) (l : Nat) : Nat → Nat → Nat → List Int32 → Nat → Nat ⊕ (List Int32 × Nat)
  | 0, _, _, _, p => .inl p
  | n + 1, kind, deep, v, p =>
    if kind = 0 then match ru_rd ch l n 1 deep v p with
      | .inl e => .inl e
      | .inr (a, q) => if q < l ∧ (ch q = 60 ∨ ch q = 62 ∨ ch q = 61) then (match ru_rd ch l n 1 deep a (q + 1) with
          | .inl e => .inl e
          | .inr (b, q2) => .inr (b ++ [-(ch q)], q2))
        else .inr (a, q)
    else if kind = 1 then match ru_rd ch l n 2 deep v p with
      | .inl e => .inl e
      | .inr (a, q) => ru_rd ch l n 4 deep a q
    else if kind = 2 then match ru_rd ch l n 3 deep v p with
      | .inl e => .inl e
      | .inr (a, q) => ru_rd ch l n 5 deep a q
    else if kind = 4 then (if p < l ∧ (ch p = 43 ∨ ch p = 45) then match ru_rd ch l n 2 deep v (p + 1) with
        | .inl e => .inl e
        | .inr (b, q) => ru_rd ch l n 4 deep (b ++ [-(ch p)]) q
      else .inr (v, p))
    else if kind = 5 then (if p < l ∧ (ch p = 42 ∨ ch p = 47) then match ru_rd ch l n 3 deep v (p + 1) with
        | .inl e => .inl e
        | .inr (b, q) => ru_rd ch l n 5 deep (b ++ [-(ch p)]) q
      else .inr (v, p))
    else if p < l ∧ ch p = 45 then (match ru_rd ch l n 3 deep v (p + 1) with
      | .inl e => .inl e
      | .inr (b, q) => .inr (b ++ [-256], q))
    else if p < l ∧ ch p = 40 ∧ deep < 4 then (match ru_rd ch l n 0 (deep + 1) v (p + 1) with
      | .inl e => .inl e
      | .inr (b, q) => if q < l ∧ ch q = 41 then .inr (b, q + 1) else .inl q)
    else if p < l ∧ ru_dig (ch p) = true then .inr (v ++ [(ru_num ch l 3 p 0).1], (ru_num ch l 3 p 0).2)
    else if p < l ∧ ru_let (ch p) ≠ -1 then .inr (v ++ [1000 + ru_let (ch p)], p + 1)
    else .inl p
def ru_val (as : Nat → Int32) (w : Int32) : Int32 := if 0 ≤ w - 1000 ∧ w - 1000 < 6 then as (w - 1000).toNatClampNeg else w
def ru_join (s a b : Int32) : Int32 := if s = 60 then (if a < b then 1 else 0) else if s = 62 then (if b < a then 1 else 0) else if s = 61 then (if a = b then 1 else 0) else if s = 43 then a + b else if s = 45 then a - b else if s = 42 then a * b else if b = 0 then 0 else a / b
def ru_step (as : Nat → Int32) (w : Int32) (st : List Int32) : Option (List Int32) :=
  if 0 ≤ w then some (ru_val as w :: st) else if w = -256 then (match st with
    | x :: r => some (-x :: r)
    | [] => none)
  else match st with
    | b :: a :: r => some (ru_join (-w) a b :: r)
    | _ => none
def ru_ev (as : Nat → Int32) : List Int32 → List Int32 → Option (List Int32)
  | [], st => some st
  | w :: ws, st => (ru_step as w st).bind (ru_ev as ws)
def iv_rule (M : fd_M) : Prop := ∃ (cd : List Int32) (ls : Nat), cd.length ≤ 40 ∧ ls ≤ 40 ∧ M.1 35 1 = nI cd.length ∧ M.1 182 30 = nI ls ∧ (cd = [] ↔ ls = 0) ∧ (∀ i, i < cd.length → M.1 36 i = cd.getD i 0) ∧ (∀ i, i < ls → ∃ c, by_ok (M.1 195 i) c) ∧ (cd = [] ∨ ∀ as : Nat → Int32, ∃ x, ru_ev as cd [] = some [x]) ∧ ∃ ch : Nat → Int32, (∀ i, ch i ≠ 256) ∧ (∀ i, i < ls → ch i = M.1 195 i &&& 255) ∧ (0 < ls → ru_rd ch ls 300 0 0 [] 0 = .inr (cd, ls))
theorem iv_rule_cg {M M' : fd_M} (h : iv_rule M) (e : fd_eq 6 M M') : iv_rule M' := by
  unfold iv_rule
  have e1 : M'.1 195 = M.1 195 := funext fun i => (e 195 i rfl).1
  have e2 : M'.1 36 = M.1 36 := funext fun i => (e 36 i rfl).1
  rw [(e 35 1 rfl).1, (e 182 30 rfl).1, e1, e2]
  exact h
/-- THE INVARIANT, behind c calls -/
def Inv (c : Nat) (M : fd_M) : Prop := ∃ (v f n : Nat) (R D : Nat → Nat → Nat) (A B U L H : Nat → Nat) (N : Nat → Nat → Nat), iv_text M ∧ iv_row M ∧ iv_land v R D M ∧ iv_fairs v f A B U M ∧ iv_sky M ∧ iv_rule M ∧ iv_st v f (2000 * c) 42 183 0 M ∧ iv_past v f (2000 * c) M ∧ iv_kept v f (2000 * c) M ∧ iv_songs v n L H N M
/-- one call of both: they answer alike, and the invariant holds on -/
def fd_both (fx fm : List Value → fd_M → Option (Value × fd_M)) (ax : List Value) : Prop := ∀ (c : Nat) (M : fd_M), c ≤ 512 → Inv c M → ∃ (r : Int32) (Mx Mm : fd_M), fx (.ref 0 :: ax) M = some (.int r, Mx) ∧ fm (.ref 182 :: ax) Mx = some (.int r, Mm) ∧ Inv (c + 1) Mm
/-- of both, behind the class's -/
def fd_bm (fm : List Value → fd_M → Option (Value × fd_M)) (ax : List Value) (c : Nat) (r : Value) (Mx : fd_M) : Prop := fd_run fm (.ref 182 :: ax) Mx (fun r2 Mm => r2 = r ∧ (∃ v, r = .int v) ∧ Inv (c + 1) Mm)
theorem fd_both_of {fx fm : List Value → fd_M → Option (Value × fd_M)} {ax : List Value} (h : ∀ (c : Nat) (M : fd_M), c ≤ 512 → Inv c M → fd_run fx (.ref 0 :: ax) M (fun r Mx => fd_bm fm ax c r Mx)) : fd_both fx fm ax := by
  intro c M hc hI
  obtain ⟨r, Mx, h1, r2, Mm, h2, h3, ⟨v, h4⟩, h5⟩ := h c M hc hI
  subst h3
  subst h4
  exact ⟨v, Mx, Mm, h1, h2, h5⟩
/-- where class and reference have their answers as equations -/
theorem fd_both_eq {fx fm : List Value → fd_M → Option (Value × fd_M)} {ax : List Value} {c : Nat} {M Mx Mm : fd_M} {r : Int32} (h1 : fx (.ref 0 :: ax) M = some (.int r, Mx)) (h2 : fm (.ref 182 :: ax) Mx = some (.int r, Mm)) (h3 : Inv (c + 1) Mm) : fd_run fx (.ref 0 :: ax) M (fun r Mx => fd_bm fm ax c r Mx) := ⟨_, _, h1, _, _, h2, rfl, ⟨r, rfl⟩, h3⟩
theorem Inv_sm {c : Nat} {M M' : fd_M} (h : Inv c M) (hs : fd_sm [0] M M') : Inv (c + 1) M' := by
  obtain ⟨v, f, n, R, D, A, B, U, L, H, N, a1, a2, a3, a4, a5, a6, a7, a8, a9, a10⟩ := h
  exact ⟨v, f, n, R, D, A, B, U, L, H, N, iv_text_cg a1 (hs.eq (by decide)), iv_row_cg a2 (hs.eq (by decide)), iv_land_cg a3 (hs.eq (by decide)), iv_fairs_cg a4 (hs.eq (by decide)), iv_sky_cg a5 (hs.eq (by decide)), iv_rule_cg a6 (hs.eq (by decide)), iv_now_cg a7 a4.1 (by omega) (hs.eq (by decide)), iv_past_cg a8 a4.1 (by omega) (hs.eq (by decide)), iv_kept_cg a9 a4.1 (by omega) (hs.eq (by decide)), iv_songs_cg a10 (hs.eq (by decide))⟩
theorem Inv_row {c : Nat} {M M' : fd_M} (h : Inv c M) (hs : fd_sm [0, 2] M M') (hr : iv_row M') : Inv (c + 1) M' := by
  obtain ⟨v, f, n, R, D, A, B, U, L, H, N, a1, a2, a3, a4, a5, a6, a7, a8, a9, a10⟩ := h
  exact ⟨v, f, n, R, D, A, B, U, L, H, N, iv_text_cg a1 (hs.eq (by decide)), hr, iv_land_cg a3 (hs.eq (by decide)), iv_fairs_cg a4 (hs.eq (by decide)), iv_sky_cg a5 (hs.eq (by decide)), iv_rule_cg a6 (hs.eq (by decide)), iv_now_cg a7 a4.1 (by omega) (hs.eq (by decide)), iv_past_cg a8 a4.1 (by omega) (hs.eq (by decide)), iv_kept_cg a9 a4.1 (by omega) (hs.eq (by decide)), iv_songs_cg a10 (hs.eq (by decide))⟩
