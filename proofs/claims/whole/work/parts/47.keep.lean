/-! A SUNDAY leaves seats and churches as they are -/
theorem wedStep_ch {T : mT} {S : mS} {q cl j : Nat} (hq : q < 5) (hj : j < 8 ∨ (13 ≤ j ∧ j < 23)) : (wedStep T S q cl).1 j = S j := by
  unfold wedStep
  split
  · show setF (setF S 29 _) (8 + q) 2 j = S j
    rw [setF_n (by omega), setF_n (by omega)]
  · split
    · show setF (setF S 29 _) (23 + q) _ j = S j
      rw [setF_n (by omega), setF_n (by omega)]
    · show setF (setF (setF S 29 _) (23 + q) _) (8 + q) 1 j = S j
      rw [setF_n (by omega), setF_n (by omega), setF_n (by omega)]
theorem sunN_ch {T : mT} {S : mS} {j : Nat} (hj : j < 8 ∨ (13 ≤ j ∧ j < 23)) : ∀ n, n ≤ 5 → (sunN T S n).1 j = S j
  | 0, _ => rfl
  | n + 1, hn => by
    have ih := sunN_ch (T := T) (S := S) hj n (by omega)
    rw [show sunN T S (n + 1) = sunStep T (called T S) n (sunN T S n) from rfl]
    unfold sunStep
    split
    · exact (wedStep_ch (by omega) hj).trans ih
    · exact ih
/-- what is read in a church is so through the whole Sunday -/
theorem sunN_read {T : mT} {S : mS} (hw : tw T) {c : Int} {cl n : Nat} (hn : n ≤ 5) : readIn T (sunN T S n).1 c cl = readIn T S c cl := readIn_congr hw (fun j hj => sunN_ch (Or.inr ⟨by omega, by omega⟩) n hn) (fun j hj => sunN_ch (Or.inr ⟨by omega, by omega⟩) n hn)
/-- the wedding test, as the reference makes it -/
theorem wed_ref {T : mT} (hw : tw T) (S : mS) (q : Nat) : wedB T S q &&& pm T q ≠ 0 ↔ (0 ≤ wwF T S (T 6 q) q (nQ T) ∨ 0 ≤ wwF T S (T 7 q) q (nQ T)) := by
  have h1 := tw_one hw q
  have h2 := tw_other hw q
  have e1 : ((pa T q : Nat) : Int) = T 6 q := by show (((T 6 q).toNat : Nat) : Int) = T 6 q; omega
  have e2 : ((pb T q : Nat) : Int) = T 7 q := by show (((T 7 q).toNat : Nat) : Int) = T 7 q; omega
  have h := and_two (m := wedB T S q) (a := pa T q) (b := pb T q)
  rw [wed_bit hw, wed_bit hw, e1, e2] at h
  exact h
