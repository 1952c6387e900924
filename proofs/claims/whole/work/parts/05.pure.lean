/-! pure words of both classes -/
noncomputable def bI (P : Prop) : Int32 := @ite _ P (Classical.propDecidable P) 1 0
theorem bI_t {P : Prop} (h : P) : bI P = nI 1 := by unfold bI; rw [if_pos h]; rfl
theorem bI_f {P : Prop} (h : ¬ P) : bI P = nI 0 := by unfold bI; rw [if_neg h]; rfl
theorem bI_0 {P : Prop} (h : bI P = 0) : ¬ P := fun hp => by rw [bI_t hp] at h; exact absurd h (by decide)
theorem bI_1 {P : Prop} (h : ¬ bI P = 0) : P := Classical.byContradiction (fun hp => h (by rw [bI_f hp]; rfl))
theorem bI_nar (P : Prop) : narrow .boolean (.int (bI P)) = .int (bI P) := by
  by_cases h : P
  · rw [bI_t h]; decide
  · rw [bI_f h]; decide
theorem bI_congr {P Q : Prop} (h : P ↔ Q) : bI P = bI Q := by rw [propext h]
def hh (k : Int32) : Nat := k.toBitVec.toNat % 2 ^ 31
theorem hh_lt (k : Int32) : hh k < 2 ^ 31 := Nat.mod_lt _ (by decide)
theorem hh_and (k : Int32) : k &&& 2147483647 = nI (hh k) := pk_and k 31 (by decide)
def rd (b lv : Nat) : Nat := b * 2 ^ lv
theorem rd_0 (b : Nat) : rd b 0 = b := by unfold rd; omega
theorem rd_s (b lv : Nat) : rd b (lv + 1) = 2 * rd b lv := by unfold rd; rw [Nat.pow_succ, ← Nat.mul_assoc]; omega
theorem rd_pos {b : Nat} (lv : Nat) (h : 1 ≤ b) : 1 ≤ rd b lv := by
  induction lv with
  | zero => rw [rd_0]; exact h
  | succ n ih => rw [rd_s]; omega
theorem rd_ge {b : Nat} (lv : Nat) : b ≤ rd b lv := by
  induction lv with
  | zero => rw [rd_0]; exact Nat.le_refl _
  | succ n ih => rw [rd_s]; omega
theorem rd_lv {b lv : Nat} (hb : 1 ≤ b) (h : rd b lv ≤ 200) : lv ≤ 7 := by
  have h1 : 2 ^ lv ≤ rd b lv := by unfold rd; exact Nat.le_mul_of_pos_left _ hb
  rcases Nat.lt_or_ge 7 lv with h2 | h2
  · have : 2 ^ 8 ≤ 2 ^ lv := Nat.pow_le_pow_right (by decide) h2
    omega
  · exact h2
theorem rd_shl {b lv : Nat} (hl : lv ≤ 7) (h : rd b lv ≤ 200) : nI b <<< (nI lv &&& 31) = nI (rd b lv) := by
  have h31 : ∀ n, n < 8 → ((nI n &&& 31).toBitVec.smod 32).toNat = n := by decide
  unfold rd at h ⊢
  exact pk_shlN _ lv (h31 lv (by omega)) (by omega)
def bk (b lv pt : Nat) (k : Int32) : Nat := if hh k % rd b lv < pt then hh k % (2 * rd b lv) else hh k % rd b lv
theorem bk_lt {b lv pt : Nat} (k : Int32) (h0 : 1 ≤ rd b lv) : bk b lv pt k < rd b lv + pt := by
  unfold bk
  have h1 : hh k % rd b lv < rd b lv := Nat.mod_lt _ (by omega)
  have h2 : hh k % (2 * rd b lv) < 2 * rd b lv := Nat.mod_lt _ (by omega)
  have h3 : hh k % (2 * rd b lv) % rd b lv = hh k % rd b lv := Nat.mod_mod_of_dvd _ ⟨2, Nat.mul_comm _ _⟩
  split
  · rename_i h
    rcases Nat.lt_or_ge (hh k % (2 * rd b lv)) (rd b lv) with h4 | h4
    · omega
    · have h5 := Nat.mod_eq_sub_mod h4
      have h6 : (hh k % (2 * rd b lv) - rd b lv) % rd b lv = hh k % (2 * rd b lv) - rd b lv := Nat.mod_eq_of_lt (by omega)
      omega
  · omega
def okS (b c pl bl n lv pt : Nat) : Prop := 1 ≤ b ∧ b ≤ 8 ∧ 1 ≤ c ∧ c ≤ 8 ∧ 8 ≤ pl ∧ pl ≤ 300 ∧ b ≤ bl ∧ bl ≤ 200 ∧ n ≤ 512 ∧ pt < rd b lv ∧ rd b lv + pt ≤ bl ∧ lv ≤ 7
theorem ok_m1 {b c pl bl n lv pt : Nat} (h : okS b c pl bl n lv pt) : c * (rd b lv + pt) ≤ 1600 := by
  obtain ⟨h1, h2, h3, h4, h5, h6, h7, h8, h9, h10, h11, h12⟩ := h
  have := Nat.mul_le_mul h4 (show rd b lv + pt ≤ 200 by omega)
  omega
theorem ok_m3 {b c pl bl n lv pt : Nat} (h : okS b c pl bl n lv pt) : 3 * c * (rd b lv + pt) ≤ 4800 := by
  have := ok_m1 h
  rw [Nat.mul_assoc]
  omega
def ct (g : Nat → Nat) (q : Nat) : Nat → Nat
  | 0 => 0
  | n + 1 => ct g q n + (if g n = q then 1 else 0)
def sm (F : Nat → Nat) : Nat → Nat
  | 0 => 0
  | n + 1 => sm F n + F n
def pg (c n : Nat) : Nat := if n = 0 then 1 else (n + c - 1) / c
def nd (c : Nat) (g : Nat → Nat) (n B : Nat) : Nat := sm (fun q => pg c (ct g q n)) B
theorem ct_le (g : Nat → Nat) (q n : Nat) : ct g q n ≤ n := by
  induction n with
  | zero => exact Nat.le_refl _
  | succ n ih => unfold ct; split <;> omega
theorem ct_congr {g g' : Nat → Nat} {q n : Nat} (h : ∀ j, j < n → g j = g' j) : ct g q n = ct g' q n := by
  induction n with
  | zero => rfl
  | succ n ih => unfold ct; rw [ih (fun j hj => h j (by omega)), h n (by omega)]
theorem sm_congr {F F' : Nat → Nat} {n : Nat} (h : ∀ j, j < n → F j = F' j) : sm F n = sm F' n := by
  induction n with
  | zero => rfl
  | succ n ih => unfold sm; rw [ih (fun j hj => h j (by omega)), h n (by omega)]
theorem sm_le {F : Nat → Nat} {n M : Nat} (h : ∀ j, j < n → F j ≤ M) : sm F n ≤ n * M := by
  induction n with
  | zero => exact Nat.zero_le _
  | succ n ih =>
    unfold sm
    have h1 := ih (fun j hj => h j (by omega))
    have h2 := h n (by omega)
    rw [Nat.succ_mul]
    omega
theorem sm_mul {F F' : Nat → Nat} {n c : Nat} (h : ∀ j, j < n → F j ≤ c * F' j) : sm F n ≤ c * sm F' n := by
  induction n with
  | zero => exact Nat.zero_le _
  | succ n ih =>
    unfold sm
    have h1 := ih (fun j hj => h j (by omega))
    have h2 := h n (by omega)
    rw [Nat.mul_add]
    omega
theorem sm_one {B x : Nat} : sm (fun q => if x = q then 1 else 0) B = if x < B then 1 else 0 := by
  induction B with
  | zero => rfl
  | succ B ih =>
    unfold sm
    rw [ih]
    split <;> split <;> split <;> omega
theorem sm_add {F F' : Nat → Nat} {n : Nat} : sm (fun q => F q + F' q) n = sm F n + sm F' n := by
  induction n with
  | zero => rfl
  | succ n ih => unfold sm; rw [ih]; omega
theorem sm_zero {n : Nat} : sm (fun _ => 0) n = 0 := by
  induction n with
  | zero => rfl
  | succ n ih => unfold sm; rw [ih]
theorem sm_ct {g : Nat → Nat} {n B : Nat} (h : ∀ j, j < n → g j < B) : sm (fun q => ct g q n) B = n := by
  induction n with
  | zero => exact sm_zero
  | succ n ih =>
    have h1 : sm (fun q => ct g q (n + 1)) B = sm (fun q => ct g q n + (if g n = q then 1 else 0)) B := rfl
    rw [h1, sm_add (F := fun q => ct g q n) (F' := fun q => if g n = q then 1 else 0), ih (fun j hj => h j (by omega)), sm_one, if_pos (h n (by omega))]
theorem pg_le {c n : Nat} (hc : 1 ≤ c) : pg c n ≤ n + 1 := by
  unfold pg
  split
  · omega
  · have : (n + c - 1) / c ≤ n := by
      rw [Nat.div_le_iff_le_mul_add_pred (by omega)]
      have := Nat.mul_le_mul hc (Nat.le_refl n)
      omega
    omega
theorem pg_ge {c n : Nat} (hc : 1 ≤ c) : n ≤ c * pg c n := by
  unfold pg
  split
  · omega
  · have h1 := Nat.div_add_mod (n + c - 1) c
    have h2 := Nat.mod_lt (n + c - 1) (show 0 < c by omega)
    omega
theorem pg_max {c n : Nat} (hc : 1 ≤ c) (hn : n + c < 2 ^ 31) : (if nI 1 < nI ((n + c - 1) / c) then nI ((n + c - 1) / c) else nI 1) = nI (pg c n) := by
  have hq : (n + c - 1) / c ≤ n + c - 1 := Nat.div_le_self _ _
  unfold pg
  by_cases h0 : n = 0
  · subst h0
    rw [if_pos rfl, show (0 + c - 1) / c = 0 from Nat.div_eq_of_lt (by omega), if_neg (by decide)]
  · rw [if_neg h0]
    have h1 : 1 ≤ (n + c - 1) / c := by
      rw [Nat.le_div_iff_mul_le (by omega)]
      omega
    by_cases h : 1 < (n + c - 1) / c
    · rw [if_pos ((nI_ltI (by decide) (by omega)).mpr h)]
    · rw [if_neg (fun q => h ((nI_ltI (by decide) (by omega)).mp q))]
      rw [show (n + c - 1) / c = 1 by omega]
theorem nd_le {c n B : Nat} {g : Nat → Nat} (hc : 1 ≤ c) (hn : n ≤ 600) (hB : B ≤ 200) : nd c g n B ≤ 130000 := by
  have h1 : nd c g n B ≤ B * 601 := sm_le (fun q _ => by have h2 := pg_le (c := c) (n := ct g q n) hc; have h3 := ct_le g q n; omega)
  omega
theorem nd_ge {c n B : Nat} {g : Nat → Nat} (hc : 1 ≤ c) (h : ∀ j, j < n → g j < B) : n ≤ c * nd c g n B := by
  have h1 := sm_mul (F := fun q => ct g q n) (F' := fun q => pg c (ct g q n)) (n := B) (c := c) (fun q _ => pg_ge hc)
  rw [sm_ct h] at h1
  exact h1
theorem nd_congr {c n B : Nat} {g g' : Nat → Nat} (h : ∀ j, j < n → g j = g' j) : nd c g n B = nd c g' n B := sm_congr (fun q _ => by rw [ct_congr h])
-- the pointer goes on and back
def fwL (b lv pt : Nat) : Nat := if pt + 1 = rd b lv then lv + 1 else lv
def fwP (b lv pt : Nat) : Nat := if pt + 1 = rd b lv then 0 else pt + 1
def bwL (pt lv : Nat) : Nat := if pt = 0 then lv - 1 else lv
def bwP (b lv pt : Nat) : Nat := if pt = 0 then rd b (lv - 1) - 1 else pt - 1
theorem ok_fw {b c pl bl n lv pt : Nat} (h : okS b c pl bl n lv pt) (hB : rd b lv + pt < bl) : okS b c pl bl n (fwL b lv pt) (fwP b lv pt) := by
  obtain ⟨h1, h2, h3, h4, h5, h6, h7, h8, h9, h10, h11, h12⟩ := h
  unfold fwL fwP
  by_cases e : pt + 1 = rd b lv
  · rw [if_pos e, if_pos e]
    have hs := rd_s b lv
    exact ⟨h1, h2, h3, h4, h5, h6, h7, h8, h9, by omega, by omega, rd_lv h1 (by omega)⟩
  · rw [if_neg e, if_neg e]
    exact ⟨h1, h2, h3, h4, h5, h6, h7, h8, h9, by omega, by omega, h12⟩
theorem lv_pos {b lv pt : Nat} (hB : b < rd b lv + pt) (hp : pt = 0) : 1 ≤ lv := by
  rcases Nat.eq_zero_or_pos lv with h | h
  · subst h; rw [rd_0] at hB; omega
  · exact h
theorem ok_bw {b c pl bl n lv pt : Nat} (h : okS b c pl bl n lv pt) (hB : b < rd b lv + pt) : okS b c pl bl n (bwL pt lv) (bwP b lv pt) := by
  obtain ⟨h1, h2, h3, h4, h5, h6, h7, h8, h9, h10, h11, h12⟩ := h
  unfold bwL bwP
  by_cases e : pt = 0
  · rw [if_pos e, if_pos e]
    have hl := lv_pos hB e
    have hs := rd_s b (lv - 1)
    rw [show lv - 1 + 1 = lv by omega] at hs
    exact ⟨h1, h2, h3, h4, h5, h6, h7, h8, h9, by omega, by omega, by omega⟩
  · rw [if_neg e, if_neg e]
    exact ⟨h1, h2, h3, h4, h5, h6, h7, h8, h9, by omega, by omega, h12⟩
theorem bw_fw {b lv pt : Nat} (hr : 1 ≤ rd b lv) : bwL (fwP b lv pt) (fwL b lv pt) = lv ∧ bwP b (fwL b lv pt) (fwP b lv pt) = pt := by
  unfold bwL bwP fwL fwP
  by_cases e : pt + 1 = rd b lv
  · simp only [if_pos e, if_true]
    refine ⟨by omega, ?_⟩
    rw [show lv + 1 - 1 = lv by omega]; omega
  · simp only [if_neg e]
    rw [if_neg (by omega), if_neg (by omega)]
    exact ⟨rfl, by omega⟩
theorem ok_n {b c pl bl n n' lv pt : Nat} (h : okS b c pl bl n lv pt) (hn : n' ≤ 512) : okS b c pl bl n' lv pt := by
  obtain ⟨h1, h2, h3, h4, h5, h6, h7, h8, h9, h10, h11, h12⟩ := h
  exact ⟨h1, h2, h3, h4, h5, h6, h7, h8, hn, h10, h11, h12⟩
-- rows
def sh (f : Nat → Int32) (a m : Nat) : Nat → Int32 := fun j => if a ≤ j ∧ j < m then f (j + 1) else f j
theorem sh_0 (f : Nat → Int32) (a : Nat) : sh f a a = f := funext fun j => by unfold sh; rw [if_neg (by omega)]
theorem sh_s (f : Nat → Int32) {a m : Nat} (h : a ≤ m) : upd (sh f a m) m (sh f a m (m + 1)) = sh f a (m + 1) := funext fun j => by
  by_cases e : j = m
  · subst e
    rw [pk_us]; unfold sh; rw [if_neg (by omega), if_pos (by omega)]
  · rw [pk_un e]; unfold sh
    by_cases e2 : a ≤ j ∧ j < m
    · rw [if_pos e2, if_pos (by omega)]
    · rw [if_neg e2, if_neg (by omega)]
theorem sh_lt {f : Nat → Int32} {a m j : Nat} (h : j < a ∨ m ≤ j) : sh f a m j = f j := by unfold sh; rw [if_neg (by omega)]
theorem sh_in {f : Nat → Int32} {a m j : Nat} (h : a ≤ j) (h2 : j < m) : sh f a m j = f (j + 1) := by unfold sh; rw [if_pos ⟨h, h2⟩]
def mv (f : Nat → Int32) (a n : Nat) : Nat → Int32 := upd (sh f a (n - 1)) (n - 1) (f a)
theorem mv_last {f : Nat → Int32} {a n : Nat} : mv f a n (n - 1) = f a := pk_us
theorem mv_ne {f : Nat → Int32} {a n j : Nat} (h : j ≠ n - 1) : mv f a n j = sh f a (n - 1) j := pk_un h
theorem mv_congr {f g : Nat → Int32} {a n : Nat} (ha : a < n) (h : ∀ j, j < n → f j = g j) : ∀ j, j < n → mv f a n j = mv g a n j := by
  intro j hj
  by_cases e : j = n - 1
  · subst e; rw [mv_last, mv_last]; exact h a ha
  · rw [mv_ne e, mv_ne e]; unfold sh
    split
    · exact h _ (by omega)
    · exact h _ hj
theorem sh_congr {f g : Nat → Int32} {a m n : Nat} (hm : m < n) (h : ∀ j, j < n → f j = g j) : ∀ j, j < n → sh f a m j = sh g a m j := by
  intro j hj
  unfold sh
  split
  · exact h _ (by omega)
  · exact h _ hj
def mb (g : Int32 → Nat) (q n : Nat) : Nat → Nat → (Nat → Int32) → (Nat → Int32) → (Nat → Int32) × (Nat → Int32)
  | 0, _, fk, fv => (fk, fv)
  | t + 1, a, fk, fv => if g (fk a) = q then mb g q n t a (mv fk a n) (mv fv a n) else mb g q n t (a + 1) fk fv
theorem mb_congr {g : Int32 → Nat} {q n : Nat} : ∀ (t a : Nat) (fk fv gk gv : Nat → Int32), a + t ≤ n → (∀ j, j < n → fk j = gk j) → (∀ j, j < n → fv j = gv j) → ∀ j, j < n → (mb g q n t a fk fv).1 j = (mb g q n t a gk gv).1 j ∧ (mb g q n t a fk fv).2 j = (mb g q n t a gk gv).2 j := by
  intro t
  induction t with
  | zero => intro a fk fv gk gv _ h1 h2 j hj; exact ⟨h1 j hj, h2 j hj⟩
  | succ t ih =>
    intro a fk fv gk gv ha h1 h2
    unfold mb
    rw [h1 a (by omega)]
    split
    · exact ih a _ _ _ _ (by omega) (mv_congr (by omega) h1) (mv_congr (by omega) h2)
    · exact ih (a + 1) _ _ _ _ (by omega) h1 h2
def dst (f : Nat → Int32) (n : Nat) : Prop := ∀ i j, i < n → j < n → f i = f j → i = j
theorem dst_congr {f g : Nat → Int32} {n : Nat} (h : ∀ j, j < n → f j = g j) (hd : dst f n) : dst g n := fun i j hi hj e => hd i j hi hj (by rw [h i hi, h j hj]; exact e)
theorem mv_at (f : Nat → Int32) {a n : Nat} (ha : a < n) (j : Nat) (hj : j < n) : mv f a n j = f (if j = n - 1 then a else if a ≤ j then j + 1 else j) := by
  by_cases e : j = n - 1
  · rw [if_pos e]; subst e; exact mv_last
  · rw [if_neg e, mv_ne e]
    by_cases e2 : a ≤ j
    · rw [if_pos e2, sh_in e2 (by omega)]
    · rw [if_neg e2, sh_lt (by omega)]
theorem mv_dst {f : Nat → Int32} {a n : Nat} (ha : a < n) (hd : dst f n) : dst (mv f a n) n := by
  intro i j hi hj e
  rw [mv_at f ha i hi, mv_at f ha j hj] at e
  have b1 : ∀ x, x < n → (if x = n - 1 then a else if a ≤ x then x + 1 else x) < n := by
    intro x hx
    split
    · omega
    · split <;> omega
  have h := hd _ _ (b1 i hi) (b1 j hj) e
  split at h <;> split at h <;> (try split at h) <;> (try split at h) <;> omega
theorem mb_dst {g : Int32 → Nat} {q n : Nat} : ∀ (t a : Nat) (fk fv : Nat → Int32), a + t ≤ n → dst fk n → dst (mb g q n t a fk fv).1 n := by
  intro t
  induction t with
  | zero => intro a fk fv _ h; exact h
  | succ t ih =>
    intro a fk fv ha h
    unfold mb
    split
    · exact ih a _ _ (by omega) (mv_dst (by omega) h)
    · exact ih (a + 1) _ _ (by omega) h
/-- a key is taken out: the last of its row comes to its place -/
theorem cut_dst {f : Nat → Int32} {a l n : Nat} (ha : a ≤ l) (hl : l < n) (hd : dst f n) : dst (sh (upd f a (f l)) l (n - 1)) (n - 1) := by
  have at' : ∀ j, j < n - 1 → sh (upd f a (f l)) l (n - 1) j = f (if l ≤ j then j + 1 else if j = a then l else j) := by
    intro j hj
    by_cases e : l ≤ j
    · rw [if_pos e, sh_in e hj, pk_un (by omega)]
    · rw [if_neg e, sh_lt (by omega)]
      by_cases e2 : j = a
      · rw [if_pos e2]; subst e2; exact pk_us
      · rw [if_neg e2, pk_un e2]
  intro i j hi hj e
  rw [at' i hi, at' j hj] at e
  have b1 : ∀ x, x < n - 1 → (if l ≤ x then x + 1 else if x = a then l else x) < n := by
    intro x hx
    split
    · omega
    · split <;> omega
  have h := hd _ _ (b1 i hi) (b1 j hj) e
  split at h <;> split at h <;> (try split at h) <;> (try split at h) <;> omega
theorem add_dst {f : Nat → Int32} {n : Nat} {k : Int32} (hd : dst f n) (hk : ∀ j, j < n → f j ≠ k) : dst (upd f n k) (n + 1) := by
  intro i j hi hj e
  by_cases h1 : i = n <;> by_cases h2 : j = n
  · omega
  · subst h1; rw [pk_us, pk_un h2] at e; exact absurd e.symm (hk j (by omega))
  · subst h2; rw [pk_us, pk_un h1] at e; exact absurd e (hk i (by omega))
  · rw [pk_un h1, pk_un h2] at e; exact hd i j (by omega) (by omega) e
