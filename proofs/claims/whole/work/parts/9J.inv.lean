/-! rows that agree: the season; what holds of a row; the invariant between calls -/
section AG2
variable {T : mT} {S S' : mS}
theorem frN_ag (h : agS T S S') : ∀ n, n ≤ nQ T → frN S n = frN S' n
  | 0, _ => rfl
  | n + 1, hn => by
    have e : dueQ S n = dueQ S' n := by unfold dueQ; rw [(h.2.1 n (by omega)).2.2.2]
    rw [frN, frN, frN_ag h n (by omega), e]
theorem crN_ag (h : agS T S S') (s : Nat) : ∀ n, n ≤ nQ T → crN S s n = crN S' s n
  | 0, _ => rfl
  | n + 1, hn => by rw [crN, crN, crN_ag h s n (by omega), (h.2.1 n (by omega)).2.1, (h.2.1 n (by omega)).2.2.1]
theorem okR_ag (h : agS T S S') (sun : Int) (r s : Nat) : okR T S sun r s ↔ okR T S' sun r s := by
  unfold okR
  rw [crN_ag h s (nQ T) (Nat.le_refl _)]
  constructor
  · rintro ⟨h1, h2⟩
    exact ⟨fun q hq hb => by rw [← (h.2.1 q hq).1]; exact h1 q hq hb, h2⟩
  · rintro ⟨h1, h2⟩
    exact ⟨fun q hq hb => by rw [(h.2.1 q hq).1]; exact h1 q hq hb, h2⟩
theorem rset_ag (h : agS T S S') : ∀ k e, rset T S k e ↔ rset T S' k e
  | 0, e => by
    show e = frN S (nQ T) ↔ e = frN S' (nQ T)
    rw [frN_ag h _ (Nat.le_refl _)]
  | k + 1, e => by
    have ih := rset_ag h k
    show stepR T S (S 28 + 1 + k) (rset T S k) 1024 e ↔ stepR T S' (S' 28 + 1 + k) (rset T S' k) 1024 e
    rw [h.2.2.1]
    constructor
    · rintro ⟨r, h1, h2, s, h3, h4, h5⟩
      exact ⟨r, h1, (ih r).mp h2, s, h3, (okR_ag h _ _ _).mp h4, h5⟩
    · rintro ⟨r, h1, h2, s, h3, h4, h5⟩
      exact ⟨r, h1, (ih r).mpr h2, s, h3, (okR_ag h _ _ _).mpr h4, h5⟩
theorem bestS_ag (h : agS T S S') : bestS T S = bestS T S' := by
  unfold bestS
  have e1 : (fun r => @decide (rset T S 12 r) (Classical.propDecidable _)) = (fun r => @decide (rset T S' 12 r) (Classical.propDecidable _)) := by
    funext r
    by_cases z : rset T S 12 r
    · rw [@decide_eq_true _ (Classical.propDecidable _) z, @decide_eq_true _ (Classical.propDecidable _) ((rset_ag h 12 r).mp z)]
    · rw [@decide_eq_false _ (Classical.propDecidable _) z, @decide_eq_false _ (Classical.propDecidable _) (fun y => z ((rset_ag h 12 r).mpr y))]
  have e2 : rdBy T S = rdBy T S' := by
    funext r
    exact setOf_congr (fun q hq => by unfold rdF; rw [(h.2.1 q hq).1])
  rw [e1, e2]
theorem seasonA_ag (h : agS T S S') (w : Int) : seasonA T S w = seasonA T S' w := by
  unfold seasonA
  rw [bestS_ag h]
/-- what holds of every row that is kept -/
def rwOk (T : mT) (S : mS) : Prop := sw S 999 ∧ rdOk S ∧ wdj T S ∧ stZ T S ∧ chOk T S
/-- two rows, the class's and the reference's -/
def agR (T : mT) (S S' : mS) : Prop := agS T S S' ∧ rwOk T S ∧ rwOk T S'
theorem rw_sit (hw : tw T) (h : rwOk T S) {p : Nat} (hp : p < nP T) {c : Int} (hc : 0 ≤ c ∧ c < T 0 11) : rwOk T (setF S p c) := by
  have b8 := nP_le hw
  have bc := tw_c hw
  have b5 := nQ_le hw
  obtain ⟨h1, h2, h3, h4, h5⟩ := h
  refine ⟨⟨fun j hj => ?_, fun j hj => ?_, fun j hj => ?_, fun j hj => ?_, fun j hj => ?_, ?_, ?_⟩, fun j hj => ?_, ?_, fun q g1 g2 => ?_, fun q hq => ?_⟩
  · by_cases e : j = p
    · rw [e, setF_s]; omega
    · rw [setF_n e]; exact sw_seat h1 hj
  · rw [setF_n (by omega)]; exact sw_stat h1 hj
  · rw [setF_n (by omega)]; exact sw_c1 h1 hj
  · rw [setF_n (by omega)]; exact sw_c2 h1 hj
  · rw [setF_n (by omega), setF_n (by omega)]; exact sw_read h1 hj
  · rw [setF_n (by omega)]; exact sw_sun h1
  · rw [setF_n (by omega)]; exact sw_seed h1
  · rw [setF_n (by omega), setF_n (by omega)]; exact h2 j hj
  · exact wdj_same h3 (fun q hq z => by rw [setF_n (by omega)] at z; exact z)
  · rw [setF_n (by omega)]; exact h4 q g1 g2
  · rw [setF_n (by omega), setF_n (by omega)]; exact h5 q hq
theorem rw_move (hw : tw T) (h : rwOk T S) {q : Nat} (hq : q < nQ T) {c e : Int} (hc : 0 ≤ c ∧ c < T 0 11) (he : 0 ≤ e ∧ e < T 0 11) : rwOk T (setF (setF S (13 + q) c) (18 + q) e) := by
  have bc := tw_c hw
  have b5 := nQ_le hw
  obtain ⟨h1, h2, h3, h4, h5⟩ := h
  refine ⟨⟨fun j hj => ?_, fun j hj => ?_, fun j hj => ?_, fun j hj => ?_, fun j hj => ?_, ?_, ?_⟩, fun j hj => ?_, ?_, fun r g1 g2 => ?_, fun r hr => ?_⟩
  · rw [setF_n (by omega), setF_n (by omega)]; exact sw_seat h1 hj
  · rw [setF_n (by omega), setF_n (by omega)]; exact sw_stat h1 hj
  · rw [setF_n (by omega)]
    by_cases z : j = q
    · rw [z, setF_s]; omega
    · rw [setF_n (by omega)]; exact sw_c1 h1 hj
  · by_cases z : j = q
    · rw [z, setF_s]; omega
    · rw [setF_n (by omega), setF_n (by omega)]; exact sw_c2 h1 hj
  · rw [setF_n (by omega), setF_n (by omega), setF_n (by omega), setF_n (by omega)]; exact sw_read h1 hj
  · rw [setF_n (by omega), setF_n (by omega)]; exact sw_sun h1
  · rw [setF_n (by omega), setF_n (by omega)]; exact sw_seed h1
  · rw [setF_n (by omega), setF_n (by omega), setF_n (by omega), setF_n (by omega)]; exact h2 j hj
  · exact wdj_same h3 (fun r hr z => by rw [setF_n (by omega), setF_n (by omega)] at z; exact z)
  · rw [setF_n (by omega), setF_n (by omega)]; exact h4 r g1 g2
  · refine ⟨?_, ?_⟩
    · rw [setF_n (by omega)]
      by_cases z : r = q
      · rw [z, setF_s]; exact hc.2
      · rw [setF_n (by omega)]; exact (h5 r hr).1
    · by_cases z : r = q
      · rw [z, setF_s]; exact he.2
      · rw [setF_n (by omega), setF_n (by omega)]; exact (h5 r hr).2
theorem rw_lic (hw : tw T) (h : rwOk T S) {q : Nat} (hq : q < nQ T) (hb : barQ T S q = 0) : rwOk T (setF S (8 + q) 1) := by
  have b5 := nQ_le hw
  obtain ⟨h1, h2, h3, h4, h5⟩ := h
  refine ⟨sw_8 h1 (by omega) (by decide), fun j hj => ?_, wdj_lic hw h3 hb, fun r g1 g2 => ?_, fun r hr => ?_⟩
  · rw [setF_n (by omega), setF_n (by omega)]; exact h2 j hj
  · rw [setF_n (by omega)]; exact h4 r g1 g2
  · rw [setF_n (by omega), setF_n (by omega)]; exact h5 r hr
theorem rw_sun (hw : tw T) (h : rwOk T S) (h9 : S 28 < 999) : rwOk T (sunF T S).1 := by
  have b5 := nQ_le hw
  obtain ⟨h1, h2, h3, h4, h5⟩ := h
  have h1' : sw S 998 := ⟨h1.1, h1.2.1, h1.2.2.1, h1.2.2.2.1, h1.2.2.2.2.1, ⟨h1.2.2.2.2.2.1.1, by omega⟩, h1.2.2.2.2.2.2⟩
  have g := sunF_ok hw h1' h2
  refine ⟨g.1, g.2, wdj_sun hw h3, stZ_sun h4, fun r hr => ?_⟩
  rw [sunF_n (by omega), sunF_n (by omega), sunN_ch (by omega) _ b5, sunN_ch (by omega) _ b5]
  exact h5 r hr
end AG2
/-! the histories of both -/
def agH (T : mT) (H H' : mH) : Prop := H.2 = H'.2 ∧ H.2.1 ≤ H.2.2 ∧ ∀ i, i ≤ H.2.2 → agR T (H.1 i) (H'.1 i)
theorem agH_add {T : mT} {H H' : mH} {S S' : mS} (h : agH T H H') (h2 : agR T S S') : agH T (hadd H S) (hadd H' S') := by
  obtain ⟨f, m, n⟩ := H
  obtain ⟨f', m', n'⟩ := H'
  obtain ⟨h1, h3, h4⟩ := h
  have h1 : (m, n) = (m', n') := h1
  cases h1
  unfold hadd
  by_cases z : m < 40
  · rw [if_pos z, if_pos z]
    refine ⟨rfl, Nat.le_refl _, fun i hi => ?_⟩
    show agR T (if i = m + 1 then S else f i) (if i = m + 1 then S' else f' i)
    by_cases e : i = m + 1
    · rw [if_pos e, if_pos e]; exact h2
    · rw [if_neg e, if_neg e]
      have hi : i ≤ m + 1 := hi
      have h3 : m ≤ n := h3
      exact h4 i (show i ≤ n by omega)
  · rw [if_neg z, if_neg z]
    refine ⟨rfl, Nat.le_refl _, fun i hi => ?_⟩
    show agR T (if i = 40 then S else f (i + 1)) (if i = 40 then S' else f' (i + 1))
    by_cases e : i = 40
    · rw [if_pos e, if_pos e]; exact h2
    · rw [if_neg e, if_neg e]
      have hi : i ≤ 40 := hi
      have h3 : m ≤ n := h3
      exact h4 (i + 1) (show i + 1 ≤ n by omega)
theorem hadd_now (H : mH) (S : mS) : (hadd H S).1 (hadd H S).2.1 = S := by
  unfold hadd
  by_cases z : H.2.1 < 40
  · rw [if_pos z]
    show (if H.2.1 + 1 = H.2.1 + 1 then S else H.1 (H.2.1 + 1)) = S
    rw [if_pos rfl]
  · rw [if_neg z]
    show (if 40 = 40 then S else H.1 (40 + 1)) = S
    rw [if_pos rfl]
