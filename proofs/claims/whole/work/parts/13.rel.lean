/-! the class's state and the reference's, tied -/
def Rel (b c pl bl nk t n lv pt : Nat) (fk fv gk gv gh : Nat → Int32) : Prop :=
  okS b c pl bl n lv pt ∧ nk = min (pl * c) 512 ∧ n ≤ nk ∧ n ≤ t ∧ (∀ j, j < n → fk j = gk j) ∧ (∀ j, j < n → fv j = gv j) ∧ dst fk n ∧ hom b n lv pt gk gh
theorem Rel.later {b c pl bl nk t n lv pt : Nat} {fk fv gk gv gh : Nat → Int32} (h : Rel b c pl bl nk t n lv pt fk fv gk gv gh) : Rel b c pl bl nk (t + 1) n lv pt fk fv gk gv gh := ⟨h.1, h.2.1, h.2.2.1, Nat.le_succ_of_le h.2.2.2.1, h.2.2.2.2⟩
theorem rel_clear {b c pl bl nk t n lv pt : Nat} {fk fv gk gv gh : Nat → Int32} (h : Rel b c pl bl nk t n lv pt fk fv gk gv gh) : Rel b c pl bl nk (t + 1) 0 0 0 fk fv gk gv gh := by
  obtain ⟨⟨h1, h2, h3, h4, h5, h6, h7, h8, h9, h10, h11, h12⟩, e, -⟩ := h
  refine ⟨⟨h1, h2, h3, h4, h5, h6, h7, h8, by omega, by rw [rd_0]; omega, by rw [rd_0]; omega, by omega⟩, e, Nat.zero_le _, Nat.zero_le _, fun j hj => absurd hj (by omega), fun j hj => absurd hj (by omega), fun i j hi => absurd hi (by omega), fun j hj => absurd hj (by omega)⟩
theorem ok_pLP {b c pl bl n lv pt : Nat} (h : okS b c pl bl n lv pt) : okS b c pl bl n (pL b c bl n lv pt) (pP b c bl n lv pt) := by
  unfold pL pP
  by_cases e : 3 * c * (rd b lv + pt) < 4 * n ∧ rd b lv + pt < bl
  · rw [if_pos e, if_pos e]; exact ok_fw h e.2
  · rw [if_neg e, if_neg e]; exact h
theorem upd_agree {f g : Nat → Int32} {n a : Nat} {x y : Int32} (h : ∀ j, j < n → f j = g j) (e : x = y) : ∀ j, j < n → upd f a x j = upd g a y j := fun j hj => by
  by_cases q : j = a
  · subst q; rw [pk_us, pk_us]; exact e
  · rw [pk_un q, pk_un q]; exact h j hj
theorem upd_agree1 {f g : Nat → Int32} {n : Nat} {x : Int32} (h : ∀ j, j < n → f j = g j) : ∀ j, j < n + 1 → upd f n x j = upd g n x j := fun j hj => by
  by_cases q : j = n
  · subst q; rw [pk_us, pk_us]
  · rw [pk_un q, pk_un q]; exact h j (by omega)
theorem upd_beyond {f g : Nat → Int32} {n : Nat} {x : Int32} (h : ∀ j, j < n → f j = g j) : ∀ j, j < n → f j = upd g n x j := fun j hj => by
  rw [pk_un (by omega)]; exact h j hj
theorem dst_beyond {f : Nat → Int32} {n : Nat} {x : Int32} (h : dst f n) : dst (upd f n x) n := fun i j hi hj e => h i j hi hj (by rw [pk_un (by omega), pk_un (by omega)] at e; exact e)
theorem ndP_congr {b c n L P : Nat} {f g : Nat → Int32} (h : ∀ j, j < n → f j = g j) : ndP b c n L P f = ndP b c n L P g := nd_congr (fun j hj => by rw [h j hj])
theorem rel_put {b c pl bl nk t n lv pt : Nat} {fk fv gk gv gh : Nat → Int32} {k v r1 r2 : Int32} {n1 l1 p1 n2 l2 p2 : Nat} {fk1 fv1 gk2 gv2 gh2 : Nat → Int32} (R : Rel b c pl bl nk t n lv pt fk fv gk gv gh) (ht : t < 512)
    (h1 : oldP n fk fv k v r1 n1 l1 p1 lv pt fk1 fv1 ∨ ((∀ j, j < n → fk j ≠ k) ∧ nk ≤ n ∧ r1 = nI 2 ∧ n1 = n ∧ l1 = lv ∧ p1 = pt ∧ fk1 = fk ∧ fv1 = fv) ∨ ((∀ j, j < n → fk j ≠ k) ∧ n < nk ∧ newP b c pl bl n lv pt fk fv k v r1 n1 l1 p1 fk1 fv1))
    (h2 : (oldP n gk gv k v r2 n2 l2 p2 lv pt gk2 gv2 ∨ ((∀ j, j < n → gk j ≠ k) ∧ newP b c pl bl n lv pt gk gv k v r2 n2 l2 p2 gk2 gv2)) ∧ hom b n2 l2 p2 gk2 gh2) :
    r1 = r2 ∧ n2 = n1 ∧ l2 = l1 ∧ p2 = p1 ∧ Rel b c pl bl nk (t + 1) n1 l1 p1 fk1 fv1 gk2 gv2 gh2 := by
  obtain ⟨ok, enk, hn, hnt, ak, av, hd, hh⟩ := R
  obtain ⟨h2, hh2⟩ := h2
  rcases h1 with ⟨j, hj, hk, e1, e2, e3, e4, e5, e6⟩ | ⟨hno, hfull, e1, e2, e3, e4, e5, e6⟩ | ⟨hno, hlt, hnew⟩
  · rcases h2 with ⟨j2, hj2, hk2, d1, d2, d3, d4, d5, d6⟩ | ⟨hno2, -⟩
    · have ej : j = j2 := hd j j2 hj hj2 (by rw [hk, ak j2 hj2, hk2])
      subst ej e1 e2 e3 e4 e5 e6 d1 d2 d3 d4 d5 d6
      exact ⟨rfl, rfl, rfl, rfl, ok, enk, hn, by omega, ak, upd_agree av rfl, hd, hh2⟩
    · exact absurd (by rw [← ak j hj]; exact hk) (hno2 j hj)
  · rcases h2 with ⟨j2, hj2, hk2, -⟩ | ⟨hno2, hnew⟩
    · exact absurd (by rw [ak j2 hj2]; exact hk2) (hno j2 hj2)
    · have enk2 : nk = pl * c := by
        rcases Nat.le_total (pl * c) 512 with q | q
        · rw [enk, Nat.min_eq_left q]
        · rw [Nat.min_eq_right q] at enk; omega
      have ok1 : okS b c pl bl (n + 1) (pL b c bl (n + 1) lv pt) (pP b c bl (n + 1) lv pt) := ok_pLP (ok_n ok (by omega))
      rcases hnew with ⟨hle, -⟩ | ⟨-, d1, d2, d3, d4, d5, d6⟩
      · have q1 : n + 1 ≤ c * ndP b c (n + 1) (pL b c bl (n + 1) lv pt) (pP b c bl (n + 1) lv pt) (upd gk n k) := nd_ge ok.2.2.1 (fun j hj => bk_lt _ (by have := ok1.2.2.2.2.2.2.2.2.2.1; omega))
        have q2 := Nat.mul_le_mul (Nat.le_refl c) hle
        rw [Nat.mul_comm c pl] at q2
        omega
      · subst e1 e2 e3 e4 e5 e6 d1 d2 d3 d4 d5 d6
        exact ⟨rfl, rfl, rfl, rfl, ok, enk, hn, by omega, upd_beyond ak, upd_beyond av, hd, hh2⟩
  · rcases h2 with ⟨j2, hj2, hk2, -⟩ | ⟨hno2, hnew2⟩
    · exact absurd (by rw [ak j2 hj2]; exact hk2) (hno j2 hj2)
    · have end1 := ndP_congr (b := b) (c := c) (L := pL b c bl (n + 1) lv pt) (P := pP b c bl (n + 1) lv pt) (upd_agree1 (x := k) ak)
      have ok1 : okS b c pl bl (n + 1) (pL b c bl (n + 1) lv pt) (pP b c bl (n + 1) lv pt) := ok_pLP (ok_n ok (by omega))
      rcases hnew with ⟨hle, e1, e2, e3, e4, e5, e6⟩ | ⟨hgt, e1, e2, e3, e4, e5, e6⟩
      · rcases hnew2 with ⟨hle2, d1, d2, d3, d4, d5, d6⟩ | ⟨hgt2, -⟩
        · subst e1 e2 e3 e4 e5 e6 d1 d2 d3 d4 d5 d6
          exact ⟨rfl, rfl, rfl, rfl, ok1, enk, by omega, by omega, upd_agree1 ak, upd_agree1 av, add_dst hd hno, hh2⟩
        · omega
      · rcases hnew2 with ⟨hle2, -⟩ | ⟨hgt2, d1, d2, d3, d4, d5, d6⟩
        · omega
        · subst e1 e2 e3 e4 e5 e6 d1 d2 d3 d4 d5 d6
          exact ⟨rfl, rfl, rfl, rfl, ok, enk, hn, by omega, upd_agree ak rfl, upd_agree av rfl, dst_beyond hd, hh2⟩
theorem last_eq {b n lv pt j m m2 : Nat} {fk gk : Nat → Int32} (hj : j < n) (ak : ∀ j, j < n → fk j = gk j) (h1 : lastP b n lv pt fk j m) (h2 : lastP b n lv pt gk j m2) : m = m2 := by
  obtain ⟨a1, a2, a3, a4⟩ := h1
  obtain ⟨c1, c2, c3, c4⟩ := h2
  rcases Nat.lt_trichotomy m m2 with q | q | q
  · exact absurd (by rw [ak m2 c2, ak j hj]; exact c3) (a4 m2 q c2)
  · exact q
  · exact absurd (by rw [← ak m a2, ← ak j hj]; exact a3) (c4 m q a2)
theorem cut_agree {fk gk : Nat → Int32} {j m n : Nat} (hm : m < n) (ak : ∀ x, x < n → fk x = gk x) : ∀ x, x < n - 1 → mv (upd fk j (fk m)) m n x = sh (upd gk j (gk m)) m (n - 1) x := fun x hx => by
  rw [mv_ne (by omega)]
  exact sh_congr (n := n) (by omega) (upd_agree ak (ak m hm)) x (by omega)
theorem rel_rem {b c pl bl nk t n lv pt : Nat} {fk fv gk gv gh : Nat → Int32} {k r1 r2 : Int32} {n1 l1 p1 n2 l2 p2 : Nat} {fk1 fv1 gk2 gv2 gh2 : Nat → Int32} (R : Rel b c pl bl nk t n lv pt fk fv gk gv gh)
    (h1 : ((∀ j, j < n → fk j ≠ k) ∧ r1 = nI 0 ∧ n1 = n ∧ l1 = lv ∧ p1 = pt ∧ fk1 = fk ∧ fv1 = fv) ∨ (∃ j m, j < n ∧ fk j = k ∧ lastP b n lv pt fk j m ∧ r1 = nI 1 ∧ n1 = n - 1 ∧ ((4 * (n - 1) < c * (rd b lv + pt) ∧ b < rd b lv + pt ∧ l1 = bwL pt lv ∧ p1 = bwP b lv pt ∧ fk1 = (mb (bk b lv pt) (rd b lv + pt - 1) (n - 1) (n - 1) 0 (mv (upd fk j (fk m)) m n) (mv (upd fv j (fv m)) m n)).1 ∧ fv1 = (mb (bk b lv pt) (rd b lv + pt - 1) (n - 1) (n - 1) 0 (mv (upd fk j (fk m)) m n) (mv (upd fv j (fv m)) m n)).2) ∨ (¬ (4 * (n - 1) < c * (rd b lv + pt) ∧ b < rd b lv + pt) ∧ l1 = lv ∧ p1 = pt ∧ fk1 = mv (upd fk j (fk m)) m n ∧ fv1 = mv (upd fv j (fv m)) m n))))
    (h2 : (((∀ j, j < n → gk j ≠ k) ∧ r2 = nI 0 ∧ n2 = n ∧ l2 = lv ∧ p2 = pt ∧ gk2 = gk ∧ gv2 = gv) ∨ (∃ j m, j < n ∧ gk j = k ∧ lastP b n lv pt gk j m ∧ r2 = nI 1 ∧ n2 = n - 1 ∧ ((4 * (n - 1) < c * (rd b lv + pt) ∧ b < rd b lv + pt ∧ l2 = bwL pt lv ∧ p2 = bwP b lv pt ∧ gk2 = (mb (bk b lv pt) (rd b lv + pt - 1) (n - 1) (n - 1) 0 (sh (upd gk j (gk m)) m (n - 1)) (sh (upd gv j (gv m)) m (n - 1))).1 ∧ gv2 = (mb (bk b lv pt) (rd b lv + pt - 1) (n - 1) (n - 1) 0 (sh (upd gk j (gk m)) m (n - 1)) (sh (upd gv j (gv m)) m (n - 1))).2) ∨ (¬ (4 * (n - 1) < c * (rd b lv + pt) ∧ b < rd b lv + pt) ∧ l2 = lv ∧ p2 = pt ∧ gk2 = sh (upd gk j (gk m)) m (n - 1) ∧ gv2 = sh (upd gv j (gv m)) m (n - 1))))) ∧ hom b n2 l2 p2 gk2 gh2) :
    r1 = r2 ∧ n2 = n1 ∧ l2 = l1 ∧ p2 = p1 ∧ Rel b c pl bl nk (t + 1) n1 l1 p1 fk1 fv1 gk2 gv2 gh2 := by
  obtain ⟨ok, enk, hn, hnt, ak, av, hd, hh⟩ := R
  obtain ⟨h2, hh2⟩ := h2
  rcases h1 with ⟨hno, e1, e2, e3, e4, e5, e6⟩ | ⟨j, m, hj, hk, hl, e1, e2, h1⟩
  · rcases h2 with ⟨hno2, d1, d2, d3, d4, d5, d6⟩ | ⟨j2, m2, hj2, hk2, -⟩
    · subst e1 e2 e3 e4 e5 e6 d1 d2 d3 d4 d5 d6
      exact ⟨rfl, rfl, rfl, rfl, ok, enk, hn, by omega, ak, av, hd, hh2⟩
    · exact absurd (by rw [ak j2 hj2]; exact hk2) (hno j2 hj2)
  · rcases h2 with ⟨hno2, -⟩ | ⟨j2, m2, hj2, hk2, hl2, d1, d2, h2⟩
    · exact absurd (by rw [← ak j hj]; exact hk) (hno2 j hj)
    · have ej : j = j2 := hd j j2 hj hj2 (by rw [hk, ak j2 hj2, hk2])
      subst ej
      have em : m = m2 := last_eq hj ak hl hl2
      subst em
      have hm : m < n := hl.2.1
      have ck := cut_agree (j := j) hm ak
      have cv := cut_agree (j := j) hm av
      have dk : dst (mv (upd fk j (fk m)) m n) (n - 1) := dst_congr (fun x hx => (mv_ne (f := upd fk j (fk m)) (a := m) (n := n) (j := x) (by omega)).symm) (cut_dst hl.1 hm hd)
      rcases h1 with ⟨q1, q2, e3, e4, e5, e6⟩ | ⟨q1, e3, e4, e5, e6⟩
      · rcases h2 with ⟨z1, z2, d3, d4, d5, d6⟩ | ⟨z1, -⟩
        · subst e1 e2 e3 e4 e5 e6 d1 d2 d3 d4 d5 d6
          exact ⟨rfl, rfl, rfl, rfl, ok_bw (ok_n ok (by omega)) q2, enk, by omega, by omega, fun x hx => (mb_congr _ _ _ _ _ _ (by omega) ck cv x hx).1, fun x hx => (mb_congr _ _ _ _ _ _ (by omega) ck cv x hx).2, mb_dst _ _ _ _ (by omega) dk, hh2⟩
        · exact absurd ⟨q1, q2⟩ z1
      · rcases h2 with ⟨z1, z2, -⟩ | ⟨z1, d3, d4, d5, d6⟩
        · exact absurd ⟨z1, z2⟩ q1
        · subst e1 e2 e3 e4 e5 e6 d1 d2 d3 d4 d5 d6
          exact ⟨rfl, rfl, rfl, rfl, ok_n ok (by omega), enk, by omega, by omega, ck, cv, dk, hh2⟩
theorem rel_get {n : Nat} {fk fv gk gv : Nat → Int32} {k r1 r2 : Int32} (ak : ∀ j, j < n → fk j = gk j) (av : ∀ j, j < n → fv j = gv j) (hd : dst fk n) (h1 : (∃ j, j < n ∧ fk j = k ∧ r1 = fv j) ∨ ((∀ j, j < n → fk j ≠ k) ∧ r1 = nI 0)) (h2 : (∃ j, j < n ∧ gk j = k ∧ r2 = gv j) ∨ ((∀ j, j < n → gk j ≠ k) ∧ r2 = nI 0)) : r1 = r2 := by
  rcases h1 with ⟨j, hj, hk, e1⟩ | ⟨hno, e1⟩ <;> rcases h2 with ⟨j2, hj2, hk2, e2⟩ | ⟨hno2, e2⟩
  · have ej : j = j2 := hd j j2 hj hj2 (by rw [hk, ak j2 hj2, hk2])
    subst ej
    rw [e1, e2]; exact av j hj
  · exact absurd (by rw [← ak j hj]; exact hk) (hno2 j hj)
  · exact absurd (by rw [ak j2 hj2]; exact hk2) (hno j2 hj2)
  · rw [e1, e2]
theorem rel_has {n : Nat} {fk gk : Nat → Int32} {k r1 r2 : Int32} (ak : ∀ j, j < n → fk j = gk j) (h1 : r1 = bI (∃ j, j < n ∧ fk j = k)) (h2 : r2 = bI (∃ j, j < n ∧ gk j = k)) : r1 = r2 := by
  rw [h1, h2]
  exact bI_congr ⟨fun ⟨j, a1, a2⟩ => ⟨j, a1, by rw [← ak j a1]; exact a2⟩, fun ⟨j, a1, a2⟩ => ⟨j, a1, by rw [ak j a1]; exact a2⟩⟩
theorem rel_pages {b c n lv pt : Nat} {fk gk : Nat → Int32} {x r1 r2 : Int32} (ak : ∀ j, j < n → fk j = gk j) (hB : rd b lv + pt ≤ 200) (h1 : (∃ q, q < rd b lv + pt ∧ x = nI q ∧ r1 = nI (pg c (ct (fun j => bk b lv pt (fk j)) q n))) ∨ ((¬ ∃ q, q < rd b lv + pt ∧ x = nI q) ∧ r1 = -1)) (h2 : (∃ q, q < rd b lv + pt ∧ x = nI q ∧ r2 = nI (pg c (ct (fun j => bk b lv pt (gk j)) q n))) ∨ ((¬ ∃ q, q < rd b lv + pt ∧ x = nI q) ∧ r2 = -1)) : r1 = r2 := by
  rcases h1 with ⟨q, hq, ex, e1⟩ | ⟨hno, e1⟩ <;> rcases h2 with ⟨q2, hq2, ex2, e2⟩ | ⟨hno2, e2⟩
  · have eq : q = q2 := (nI_eq (by omega) (by omega)).mp (ex.symm.trans ex2)
    subst eq
    rw [e1, e2, ct_congr (g := fun j => bk b lv pt (fk j)) (g' := fun j => bk b lv pt (gk j)) (fun j hj => by rw [ak j hj])]
  · exact absurd ⟨q, hq, ex⟩ hno2
  · exact absurd ⟨q2, hq2, ex2⟩ hno
  · rw [e1, e2]
theorem rel_key {b n lv pt : Nat} {fk gk : Nat → Int32} {x y r1 r2 : Int32} (ak : ∀ j, j < n → fk j = gk j) (hB : rd b lv + pt ≤ 200) (h1 : keyP b n lv pt fk x y r1) (h2 : keyP b n lv pt gk x y r2) : r1 = r2 := by
  have hct : ∀ q i, i < n → ct (fun j => bk b lv pt (fk j)) q i = ct (fun j => bk b lv pt (gk j)) q i := fun q i hi => ct_congr (fun j hj => by rw [ak j (by omega)])
  rcases h1 with ⟨q, z, i, hq, ex, hz, ey, hi, hb, hc, hf, e1⟩ | ⟨hno, e1⟩ <;> rcases h2 with ⟨q2, z2, i2, hq2, ex2, hz2, ey2, hi2, hb2, hc2, hf2, e2⟩ | ⟨hno2, e2⟩
  · have eq : q = q2 := (nI_eq (by omega) (by omega)).mp (ex.symm.trans ex2)
    have ez : z = z2 := (nI_eq hz hz2).mp (ey.symm.trans ey2)
    subst eq; subst ez
    rcases Nat.lt_trichotomy i i2 with w | w | w
    · exact absurd (by rw [← hct q i hi]; exact hc) (hf2 i w (by rw [← ak i hi]; exact hb))
    · subst w; rw [e1, e2]; exact ak i hi
    · exact absurd (by rw [hct q i2 hi2]; exact hc2) (hf i2 w (by rw [ak i2 hi2]; exact hb2))
  · exact absurd (by rw [← hct q i hi]; exact hc) (hno2 q z i hq ex hz ey hi (by rw [← ak i hi]; exact hb))
  · exact absurd (by rw [hct q2 i2 hi2]; exact hc2) (hno q2 z2 i2 hq2 ex2 hz2 ey2 hi2 (by rw [ak i2 hi2]; exact hb2))
  · rw [e1, e2]
