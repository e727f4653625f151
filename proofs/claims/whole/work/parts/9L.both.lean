/-! ONE CALL OF EACH: the same answer, the invariant again -/
theorem inv_mk {I : mI} {L : Nat → Nat → Int} {D : Nat → Nat} {T : mT} {S S' : mS} {Z : mT} {H H' : mH} {Bx Bx' : Nat → mS} {m n : Nat} {g : Nat → Int} {e : Int × Int} (hC : CC I L D T S Z H Bx m n g e) (hR : RR I L T S' Z H' Bx' m n g e) (hP : PU T S S' Z H H' Bx Bx' m) : INV I (XX L D) := ⟨L, D, T, S, S', Z, H, H', Bx, Bx', m, n, g, e, rfl, hC, hR, hP⟩
theorem Fm.low {I J : mI} {t : Nat} (h : Fm I J t) (ht : isT t) : ∀ b, 111 ≤ b → J b = I b := fun b hb => h b (by omega) (by omega) (by omega) (by omega) (by omega)
theorem Ss.low {I J : mI} {t : Nat} (h : Ss I J t 49) (ht : isT t) : ∀ b, 111 ≤ b → J b = I b := fun b hb => h b (by omega) (by omega) (by omega)
theorem bo_person {l : Launch} {G : mG} {d : Nat} {I : mI} {X : mX} {a w : Int} (hd : 100 ≤ d) (h : INV I X) (h_a : inR a) (h_w : inR w) : both l G d I X m_X10_person [some (vR 0), some (vI a), some (vI w)] m_X11_person [some (vR 111), some (vI a), some (vI w)] := by
  obtain ⟨L, D, T, S, S', Z, H, H', Bx, Bx', m, n, g, e, rfl, hC, hR, hP⟩ := h
  have hA := hP.ag
  have hw : tw T := hC.1.2.2.2.2.2.1
  refine sp_person hC.1 h_a h_w (by omega) (fun J hF => ⟨_, rfl, rfl, ?_⟩)
  have hC1 := hF.cc hC
  have hR1 := hR.low (hF.low (d3_t hC))
  rw [personA_ag hA.1]
  exact rs_person hR1.ri (spouse_eq hA.2.2.2.2.1 a) h_a h_w (by omega) (fun K hK => ⟨rfl, rfl, inv_mk (hC1.hi (hK).hi) (hR1.rq hK) hP⟩)
theorem bo_pair {l : Launch} {G : mG} {d : Nat} {I : mI} {X : mX} {a w : Int} (hd : 100 ≤ d) (h : INV I X) (h_a : inR a) (h_w : inR w) : both l G d I X m_X10_pair [some (vR 0), some (vI a), some (vI w)] m_X11_pair [some (vR 111), some (vI a), some (vI w)] := by
  obtain ⟨L, D, T, S, S', Z, H, H', Bx, Bx', m, n, g, e, rfl, hC, hR, hP⟩ := h
  have hA := hP.ag
  have hw : tw T := hC.1.2.2.2.2.2.1
  refine sp_pair hC.1 h_a h_w (by omega) (fun J hF => ⟨_, rfl, rfl, ?_⟩)
  have hC1 := hF.cc hC
  have hR1 := hR.low (hF.low (d3_t hC))
  rw [pairA_ag hA.1]
  exact rs_pair hR1.ri  h_a h_w (by omega) (fun K hK => ⟨rfl, rfl, inv_mk (hC1.hi (hK).hi) (hR1.rq hK) hP⟩)
theorem bo_degree {l : Launch} {G : mG} {d : Nat} {I : mI} {X : mX} {a b : Int} (hd : 100 ≤ d) (h : INV I X) (h_a : inR a) (h_b : inR b) : both l G d I X m_X10_degree [some (vR 0), some (vI a), some (vI b)] m_X11_degree [some (vR 111), some (vI a), some (vI b)] := by
  obtain ⟨L, D, T, S, S', Z, H, H', Bx, Bx', m, n, g, e, rfl, hC, hR, hP⟩ := h
  have hA := hP.ag
  have hw : tw T := hC.1.2.2.2.2.2.1
  refine sp_degree hC.1 h_a h_b (by omega) (fun J hF => ⟨_, rfl, rfl, ?_⟩)
  have hC1 := hF.cc hC
  have hR1 := hR.low (hF.low (d3_t hC))
  exact rs_degree hR1.ri  h_a h_b (by omega) (fun K hK => ⟨rfl, rfl, inv_mk (hC1.hi (hK).hi) (hR1.rq hK) hP⟩)
theorem bo_hearing {l : Launch} {G : mG} {d : Nat} {I : mI} {X : mX} {a : Int} (hd : 100 ≤ d) (h : INV I X) (h_a : inR a) : both l G d I X m_X10_hearing [some (vR 0), some (vI a)] m_X11_hearing [some (vR 111), some (vI a)] := by
  obtain ⟨L, D, T, S, S', Z, H, H', Bx, Bx', m, n, g, e, rfl, hC, hR, hP⟩ := h
  have hA := hP.ag
  have hw : tw T := hC.1.2.2.2.2.2.1
  refine sp_hearing hC.1 h_a (by omega) (fun J hF => ⟨_, rfl, rfl, ?_⟩)
  have hC1 := hF.cc hC
  have hR1 := hR.low (hF.low (d3_t hC))
  rw [hearingA_ag hA.1]
  exact rs_hearing hR1.ri  h_a (by omega) (fun K hK => ⟨rfl, rfl, inv_mk (hC1.hi (hK).hi) (hR1.rq hK) hP⟩)
theorem bo_church {l : Launch} {G : mG} {d : Nat} {I : mI} {X : mX} {c w : Int} (hd : 100 ≤ d) (h : INV I X) (h_c : inR c) (h_w : inR w) : both l G d I X m_X10_church [some (vR 0), some (vI c), some (vI w)] m_X11_church_ [some (vR 111), some (vI c), some (vI w), none, none] := by
  obtain ⟨L, D, T, S, S', Z, H, H', Bx, Bx', m, n, g, e, rfl, hC, hR, hP⟩ := h
  have hA := hP.ag
  have hw : tw T := hC.1.2.2.2.2.2.1
  refine sp_church hC.1 h_c h_w (by omega) (fun J hF => ⟨_, rfl, rfl, ?_⟩)
  have hC1 := hF.cc hC
  have hR1 := hR.low (hF.low (d3_t hC))
  rw [churchA_ag hA.1]
  exact rs_church_ hR1.ri  h_c h_w (by omega) (fun K hK => ⟨rfl, rfl, inv_mk (hC1.hi (hK).hi) (hR1.rq hK) hP⟩)
theorem bo_quiet {l : Launch} {G : mG} {d : Nat} {I : mI} {X : mX} {a c e w : Int} (hd : 100 ≤ d) (h : INV I X) (h_a : inR a) (h_c : inR c) (h_e : inR e) (h_w : inR w) : both l G d I X m_X10_quiet [some (vR 0), some (vI a), some (vI c), some (vI e), some (vI w), none, none] m_X11_quiet [some (vR 111), some (vI a), some (vI c), some (vI e), some (vI w), none] := by
  obtain ⟨L, D, T, S, S', Z, H, H', Bx, Bx', m, n, g, e, rfl, hC, hR, hP⟩ := h
  have hA := hP.ag
  have hw : tw T := hC.1.2.2.2.2.2.1
  refine sp_quiet hC.1 h_a h_c h_e h_w (by omega) (fun J hF => ⟨_, rfl, rfl, ?_⟩)
  have hC1 := hF.cc hC
  have hR1 := hR.low (hF.low (d3_t hC))
  rw [quietA_ag hA.1]
  exact rs_quiet hR1.ri  h_a h_c h_e h_w (by omega) (fun K hK => ⟨rfl, rfl, inv_mk (hC1.hi (hK).hi) (hR1.rq hK) hP⟩)
theorem bo_quietest {l : Launch} {G : mG} {d : Nat} {I : mI} {X : mX} {a w : Int} (hd : 100 ≤ d) (h : INV I X) (h_a : inR a) (h_w : inR w) : both l G d I X m_X10_quietest [some (vR 0), some (vI a), some (vI w), none, none, none, none, none] m_X11_quietest [some (vR 111), some (vI a), some (vI w), none, none, none, none, none, none, none] := by
  obtain ⟨L, D, T, S, S', Z, H, H', Bx, Bx', m, n, g, e, rfl, hC, hR, hP⟩ := h
  have hA := hP.ag
  have hw : tw T := hC.1.2.2.2.2.2.1
  refine sp_quietest hC.1 h_a h_w (by omega) (fun J hF => ⟨_, rfl, rfl, ?_⟩)
  have hC1 := hF.cc hC
  have hR1 := hR.low (hF.low (d3_t hC))
  rw [quietestA_ag hA.1]
  exact rs_quietest hR1.ri  h_a h_w (by omega) (fun K hK => ⟨rfl, rfl, inv_mk (hC1.hi (hK).hi) (hR1.rq hK) hP⟩)
theorem bo_hush {l : Launch} {G : mG} {d : Nat} {I : mI} {X : mX} {a w : Int} (hd : 100 ≤ d) (h : INV I X) (h_a : inR a) (h_w : inR w) : both l G d I X m_X10_hush [some (vR 0), some (vI a), some (vI w), none] m_X11_hush [some (vR 111), some (vI a), some (vI w), none, none, none] := by
  obtain ⟨L, D, T, S, S', Z, H, H', Bx, Bx', m, n, g, e, rfl, hC, hR, hP⟩ := h
  have hA := hP.ag
  have hw : tw T := hC.1.2.2.2.2.2.1
  refine sp_hush hC.1 h_a h_w (by omega) (fun J hF => ⟨_, rfl, rfl, ?_⟩)
  have hC1 := hF.cc hC
  have hR1 := hR.low (hF.low (d3_t hC))
  rw [hushA_ag hA.1]
  exact rs_hush hR1.ri  h_a h_w (by omega) (fun K hK => ⟨rfl, rfl, inv_mk (hC1.hi (hK).hi) (hR1.rq hK) hP⟩)
theorem bo_law {l : Launch} {G : mG} {d : Nat} {I : mI} {X : mX} {a : Int} (hd : 100 ≤ d) (h : INV I X) (h_a : inR a) : both l G d I X m_X10_law [some (vR 0), some (vI a)] m_X11_law [some (vR 111), some (vI a)] := by
  obtain ⟨L, D, T, S, S', Z, H, H', Bx, Bx', m, n, g, e, rfl, hC, hR, hP⟩ := h
  have hA := hP.ag
  have hw : tw T := hC.1.2.2.2.2.2.1
  refine sp_law hC.1 h_a (by omega) (fun J hF => ⟨_, rfl, rfl, ?_⟩)
  have hC1 := hF.cc hC
  have hR1 := hR.low (hF.low (d3_t hC))
  rw [lawA_ag hA.1]
  exact rs_law hR1.ri  h_a (by omega) (fun K hK => ⟨rfl, rfl, inv_mk (hC1.hi (hK).hi) (hR1.rq hK) hP⟩)
theorem bo_will {l : Launch} {G : mG} {d : Nat} {I : mI} {X : mX} {a n w : Int} (hd : 100 ≤ d) (h : INV I X) (h_a : inR a) (h_n : inR n) (h_w : inR w) : both l G d I X m_X10_will [some (vR 0), some (vI a), some (vI n), some (vI w), none] m_X11_will [some (vR 111), some (vI a), some (vI n), some (vI w), none] := by
  obtain ⟨L, D, T, S, S', Z, H, H', Bx, Bx', m, n, g, e, rfl, hC, hR, hP⟩ := h
  have hA := hP.ag
  have hw : tw T := hC.1.2.2.2.2.2.1
  refine sp_will hC.1 h_a h_n h_w (by omega) (fun J hF => ⟨_, rfl, rfl, ?_⟩)
  have hC1 := hF.cc hC
  have hR1 := hR.low (hF.low (d3_t hC))
  rw [willA_ag hA.1]
  exact rs_will hR1.ri  h_a h_n h_w (by omega) (fun K hK => ⟨rfl, rfl, inv_mk (hC1.hi (hK.rq).hi) (hR1.rq hK.rq) hP⟩)
theorem bo_settles {l : Launch} {G : mG} {d : Nat} {I : mI} {X : mX} {a : Int} (hd : 100 ≤ d) (h : INV I X) (h_a : inR a) : both l G d I X m_X10_settles [some (vR 0), some (vI a), none] m_X11_settles [some (vR 111), some (vI a), none] := by
  obtain ⟨L, D, T, S, S', Z, H, H', Bx, Bx', m, n, g, e, rfl, hC, hR, hP⟩ := h
  have hA := hP.ag
  have hw : tw T := hC.1.2.2.2.2.2.1
  refine sp_settles hC.1 h_a (by omega) (fun J hF => ⟨_, rfl, rfl, ?_⟩)
  have hC1 := hF.cc hC
  have hR1 := hR.low (hF.low (d3_t hC))
  rw [settlesA_ag hA.1]
  exact rs_settles hR1.ri  h_a (by omega) (fun K hK => ⟨rfl, rfl, inv_mk (hC1.hi (hK.rq).hi) (hR1.rq hK.rq) hP⟩)
theorem bo_ancestors {l : Launch} {G : mG} {d : Nat} {I : mI} {X : mX} {a : Int} (hd : 100 ≤ d) (h : INV I X) (h_a : inR a) : both l G d I X m_X10_ancestors [some (vR 0), some (vI a)] m_X11_ancestors [some (vR 111), some (vI a), none, none] := by
  obtain ⟨L, D, T, S, S', Z, H, H', Bx, Bx', m, n, g, e, rfl, hC, hR, hP⟩ := h
  have hA := hP.ag
  have hw : tw T := hC.1.2.2.2.2.2.1
  refine sp_ancestors hC.1 h_a (by omega) (fun J hF => ⟨_, rfl, rfl, ?_⟩)
  have hC1 := hF.cc hC
  have hR1 := hR.low (hF.low (d3_t hC))
  exact rs_ancestors hR1.1 hw hP.1 h_a (by omega) ⟨rfl, rfl, inv_mk hC1 hR1 hP⟩
theorem bo_season {l : Launch} {G : mG} {d : Nat} {I : mI} {X : mX} {w : Int} (hd : 100 ≤ d) (h : INV I X) (h_w : inR w) : both l G d I X m_X10_season [some (vR 0), some (vI w), none] m_X11_season [some (vR 111), some (vI w), none, none, none] := by
  obtain ⟨L, D, T, S, S', Z, H, H', Bx, Bx', m, n, g, e, rfl, hC, hR, hP⟩ := h
  have hA := hP.ag
  have hw : tw T := hC.1.2.2.2.2.2.1
  refine sp_season hC.1 hC.2.2.2.2.2.2.2.1.2 hA.2.1.2.2.2.2 h_w (by omega) (fun J D' hF hDD => ⟨_, rfl, rfl, ?_⟩)
  have hC1 : CC J L D' T S Z H Bx m n g e := (hC.fr (fun b hb => hF b (fun z => hb (by unfold offC; omega)) (fun z => hb (by unfold offC; omega)) (fun z => hb (by unfold offC; omega)))).same hDD
  have hR1 := hR.low (fun b hb => hF b (by omega) (by omega) (by omega))
  rw [seasonA_ag hA.1]
  exact rs_season hR1.ri h_w (by omega) (fun K hK => ⟨rfl, rfl, inv_mk (hC1.hi hK.hi) (hR1.rq hK) hP⟩)
theorem bo_free {l : Launch} {G : mG} {d : Nat} {I : mI} {X : mX}  (hd : 100 ≤ d) (h : INV I X)  : both l G d I X m_X10_free [some (vR 0), none, none, none] m_X11_free [some (vR 111), none, none, none] := by
  obtain ⟨L, D, T, S, S', Z, H, H', Bx, Bx', m, n, g, e, rfl, hC, hR, hP⟩ := h
  have hA := hP.ag
  have hw : tw T := hC.1.2.2.2.2.2.1
  refine sp_free hC.1 (by omega) ⟨_, rfl, rfl, ?_⟩
  rw [freeA_ag hA.1]
  exact rs_free hR.ri (by omega) (fun K hK => ⟨rfl, rfl, inv_mk (hC.hi hK.rq.hi) (hR.rq hK.rq) hP⟩)
theorem bo_meant {l : Launch} {G : mG} {d : Nat} {I : mI} {X : mX} {k : Int} (hd : 100 ≤ d) (h : INV I X) (h_k : inR k) : both l G d I X m_X10_meant [some (vR 0), some (vI k)] m_X11_meant [some (vR 111), some (vI k), none, none] := by
  obtain ⟨L, D, T, S, S', Z, H, H', Bx, Bx', m, n, g, e, rfl, hC, hR, hP⟩ := h
  have hA := hP.ag
  have hw : tw T := hC.1.2.2.2.2.2.1
  refine sp_meant hC.1 h_k (by omega) (fun J hF => ⟨_, rfl, rfl, ?_⟩)
  have hC1 := hF.cc hC
  have hR1 := hR.low (hF.low (d3_t hC))
  rw [meantF_ag hA.1]
  exact rs_meant hR1.1 hR1.2.1 hw hA.2.2.1 hR1.2.2.2.1.2.2.2.1 hR1.2.2.2.2.2.2.1 hR1.2.2.2.1.2.2.2.2.2 hP.2.1 h_k (by omega) ⟨rfl, rfl, inv_mk hC1 hR1 hP⟩
theorem bo_ask {l : Launch} {G : mG} {d : Nat} {I : mI} {X : mX} {w k : Int} (hd : 100 ≤ d) (h : INV I X) (h_w : inR w) (h_k : inR k) : both l G d I X m_X10_ask [some (vR 0), some (vI w), some (vI k), none, none, none, none, none, none] m_X11_ask [some (vR 111), some (vI w), some (vI k), none, none, none, none, none, none] := by
  obtain ⟨L, D, T, S, S', Z, H, H', Bx, Bx', m, n, g, e, rfl, hC, hR, hP⟩ := h
  have hA := hP.ag
  have hw : tw T := hC.1.2.2.2.2.2.1
  refine sp_ask hC.1 h_w h_k (by omega) ⟨_, rfl, rfl, ?_⟩
  rw [meantF_ag hA.1]
  exact rs_ask hR.1 hR.2.1 hw hA.2.2.1 hR.2.2.2.1.2.2.2.1 hR.2.2.2.2.2.2.1 hR.2.2.2.1.2.2.2.2.2 hP.2.1 h_w h_k (by omega) ⟨rfl, rfl, inv_mk hC hR hP⟩
theorem bo_fault {l : Launch} {G : mG} {d : Nat} {I : mI} {X : mX} {w : Int} (hd : 100 ≤ d) (h : INV I X) (h_w : inR w) : both l G d I X m_X10_fault [some (vR 0), some (vI w)] m_X11_fault [some (vR 111), some (vI w)] := by
  obtain ⟨L, D, T, S, S', Z, H, H', Bx, Bx', m, n, g, e, rfl, hC, hR, hP⟩ := h
  have hA := hP.ag
  have hw : tw T := hC.1.2.2.2.2.2.1
  refine sp_fault hC.1 h_w (by omega) ⟨_, rfl, rfl, ?_⟩
  have e1 := hC.2.2.2.2.2.2.1
  have e2 := hR.2.2.2.2.2.2.2.2.2.2.1
  rw [e1.1, e1.2, ← e2.1, ← e2.2]
  exact rs_fault h_w (by omega) ⟨rfl, rfl, inv_mk hC hR hP⟩
theorem bo_about {l : Launch} {G : mG} {d : Nat} {I : mI} {X : mX} {w : Int} (hd : 100 ≤ d) (h : INV I X) (h_w : inR w) : both l G d I X m_X10_about [some (vR 0), some (vI w)] m_X11_about [some (vR 111), some (vI w)] := by
  obtain ⟨L, D, T, S, S', Z, H, H', Bx, Bx', m, n, g, e, rfl, hC, hR, hP⟩ := h
  have hA := hP.ag
  have hw : tw T := hC.1.2.2.2.2.2.1
  refine sp_about hC.1 h_w (by omega) ⟨_, rfl, rfl, ?_⟩
  have e1 := hC.2.1
  have e2 := hC.2.2.2.1
  have e3 := hR.2.2.2.2.2.2.2.2.1
  have e4 := hP.2.2.2.2.1.1
  rw [aboutA_ag hA.1 hA.2.1.2.2.2.1 hA.2.2.2.2.2.1, e1.2.1, e1.2.2.1, e2, ← e3, e4]
  exact rs_about hR.ri hA.2.2.2.2.2.1 hR.2.2.2.2.1 hR.2.2.2.2.2.2.1 hR.2.2.2.2.2.2.2.1 h_w (by omega) ⟨rfl, rfl, inv_mk hC hR hP⟩
theorem bo_sit {l : Launch} {G : mG} {d : Nat} {I : mI} {X : mX} {a c : Int} (hd : 100 ≤ d) (h : INV I X) (h_a : inR a) (h_c : inR c) : both l G d I X m_X10_sit [some (vR 0), some (vI a), some (vI c), none] m_X11_sit [some (vR 111), some (vI a), some (vI c), none] := by
  obtain ⟨L, D, T, S, S', Z, H, H', Bx, Bx', m, n, g, e, rfl, hC, hR, hP⟩ := h
  have hA := hP.ag
  have hw : tw T := hC.1.2.2.2.2.2.1
  have eP : nP T = (T 0 12).toNat := rfl
  have eQ : nQ T = (T 0 13).toNat := rfl
  have hco : ((0 ≤ a ∧ a < T 0 12) ∧ (0 ≤ c ∧ c < T 0 11) ∧ S a.toNat ≠ c) ↔ ((0 ≤ a ∧ a < T 0 12) ∧ (0 ≤ c ∧ c < T 0 11) ∧ S' a.toNat ≠ c) := by
    constructor
    · rintro ⟨z1, z2, z3⟩
      exact ⟨z1, z2, by rw [← hA.1.1 a.toNat (by omega)]; exact z3⟩
    · rintro ⟨z1, z2, z3⟩
      exact ⟨z1, z2, by rw [hA.1.1 a.toNat (by omega)]; exact z3⟩
  refine sp_sit hC.1 hC.2.1 h_a h_c (by omega) (fun c1 J hF hS hH => ⟨_, rfl, rfl, ?_⟩) (fun c1 => ⟨_, rfl, rfl, ?_⟩)
  · have c2 := hco.mp c1
    have hv := rw_sit hw hA.2.1 (p := a.toNat) (by omega) c1.2.1
    have hv2 := rw_sit hw hA.2.2 (p := a.toNat) (by omega) c1.2.1
    have hR1 := hR.low (hF.low (d3_t hC))
    have hC1 := hC.act hF hS hH hv
    refine rs_sit hR1.ri hR1.2.2.2.2.1 hP.2.2.2.1 h_a h_c (by omega) (fun _ K hK hN hH2 => ⟨?_, rfl, inv_mk (hC1.hi hK.hi) (hR1.act hK hN hH2 hv2) (hP.act ⟨setF_ag hA.1 _ _, hv, hv2⟩)⟩) (fun c3 => absurd c2 c3)
    rw [hA.1.1 a.toNat (by omega)]
  · exact rs_sit hR.ri hR.2.2.2.2.1 hP.2.2.2.1 h_a h_c (by omega) (fun c2 => absurd (hco.mpr c2) c1) (fun _ K hK => ⟨rfl, rfl, inv_mk (hC.hi hK.rq.hi) (hR.rq hK.rq) hP⟩)
theorem bo_move {l : Launch} {G : mG} {d : Nat} {I : mI} {X : mX} {a c u : Int} (hd : 100 ≤ d) (h : INV I X) (h_a : inR a) (h_c : inR c) (h_u : inR u) : both l G d I X m_X10_move [some (vR 0), some (vI a), some (vI c), some (vI u)] m_X11_move [some (vR 111), some (vI a), some (vI c), some (vI u)] := by
  obtain ⟨L, D, T, S, S', Z, H, H', Bx, Bx', m, n, g, e, rfl, hC, hR, hP⟩ := h
  have hA := hP.ag
  have hw : tw T := hC.1.2.2.2.2.2.1
  have eP : nP T = (T 0 12).toNat := rfl
  have eQ : nQ T = (T 0 13).toNat := rfl
  have hco : (openQ T S a ∧ (0 ≤ c ∧ c < T 0 11) ∧ (0 ≤ u ∧ u < T 0 11)) ↔ (openQ T S' a ∧ (0 ≤ c ∧ c < T 0 11) ∧ (0 ≤ u ∧ u < T 0 11)) := by
    rw [openQ_ag hA.1]
  refine sp_move hC.1 hC.2.1 h_a h_c h_u (by omega) (fun c1 J hF hS hH => ⟨_, rfl, rfl, ?_⟩) (fun c1 => ⟨_, rfl, rfl, ?_⟩)
  · have c2 := hco.mp c1
    have hv := rw_move hw hA.2.1 (q := a.toNat) (by have := c1.1.1; omega) c1.2.1 c1.2.2
    have hv2 := rw_move hw hA.2.2 (q := a.toNat) (by have := c1.1.1; omega) c1.2.1 c1.2.2
    have hR1 := hR.low (hF.low (d3_t hC))
    have hC1 := hC.act hF hS hH hv
    refine rs_move hR1.ri hR1.2.2.2.2.1 hP.2.2.2.1 h_a h_c h_u (by omega) (fun _ K hK hN hH2 => ⟨?_, rfl, inv_mk (hC1.hi hK.hi) (hR1.act hK hN hH2 hv2) (hP.act ⟨setF_ag (setF_ag hA.1 _ _) _ _, hv, hv2⟩)⟩) (fun c3 => absurd c2 c3)
    rw [(hA.1.2.1 a.toNat (by have := c1.1.1; omega)).2.2.2]
  · exact rs_move hR.ri hR.2.2.2.2.1 hP.2.2.2.1 h_a h_c h_u (by omega) (fun c2 => absurd (hco.mpr c2) c1) (fun _ K hK => ⟨rfl, rfl, inv_mk (hC.hi hK.rq.hi) (hR.rq hK.rq) hP⟩)
theorem bo_licence {l : Launch} {G : mG} {d : Nat} {I : mI} {X : mX} {a : Int} (hd : 100 ≤ d) (h : INV I X) (h_a : inR a) : both l G d I X m_X10_licence [some (vR 0), some (vI a)] m_X11_licence [some (vR 111), some (vI a)] := by
  obtain ⟨L, D, T, S, S', Z, H, H', Bx, Bx', m, n, g, e, rfl, hC, hR, hP⟩ := h
  have hA := hP.ag
  have hw : tw T := hC.1.2.2.2.2.2.1
  have eP : nP T = (T 0 12).toNat := rfl
  have eQ : nQ T = (T 0 13).toNat := rfl
  have hco : (openQ T S a ∧ barQ T S a.toNat = 0) ↔ (openQ T S' a ∧ barQ T S' a.toNat = 0) := by
    rw [openQ_ag hA.1, show barQ T S a.toNat = barQ T S' a.toNat from barF_ag hA.1 _ _ _]
  refine sp_licence hC.1 hC.2.1 h_a (by omega) (fun c1 J hF hS hH => ⟨_, rfl, rfl, ?_⟩) (fun c1 => ⟨_, rfl, rfl, ?_⟩)
  · have c2 := hco.mp c1
    have hv := rw_lic hw hA.2.1 (q := a.toNat) (by have := c1.1.1; omega) c1.2
    have hv2 := rw_lic hw hA.2.2 (q := a.toNat) (by have := c1.1.1; omega) c2.2
    have hR1 := hR.low (hF.low (d3_t hC))
    have hC1 := hC.act hF hS hH hv
    refine rs_licence hR1.ri hR1.2.2.2.2.1 hP.2.2.2.1 h_a (by omega) (fun _ K hK hN hH2 => ⟨?_, rfl, inv_mk (hC1.hi hK.hi) (hR1.act hK hN hH2 hv2) (hP.act ⟨setF_ag hA.1 _ _, hv, hv2⟩)⟩) (fun c3 => absurd c2 c3)
    rfl
  · exact rs_licence hR.ri hR.2.2.2.2.1 hP.2.2.2.1 h_a (by omega) (fun c2 => absurd (hco.mpr c2) c1) (fun _ K hK => ⟨rfl, rfl, inv_mk (hC.hi hK.rq.hi) (hR.rq hK.rq) hP⟩)
theorem bo_sunday {l : Launch} {G : mG} {d : Nat} {I : mI} {X : mX}  (hd : 100 ≤ d) (h : INV I X)  : both l G d I X m_X10_sunday [some (vR 0), none] m_X11_sunday [some (vR 111), none, none] := by
  obtain ⟨L, D, T, S, S', Z, H, H', Bx, Bx', m, n, g, e, rfl, hC, hR, hP⟩ := h
  have hA := hP.ag
  have hw : tw T := hC.1.2.2.2.2.2.1
  have eP : nP T = (T 0 12).toNat := rfl
  have eQ : nQ T = (T 0 13).toNat := rfl
  have hco : (S 28 < 999) ↔ (S' 28 < 999) := by
    rw [hA.1.2.2.1]
  refine sp_sunday hC.1 hC.2.1  (by omega) (fun c1 J hF hS hH => ⟨_, rfl, rfl, ?_⟩) (fun c1 => ⟨_, rfl, rfl, ?_⟩)
  · have c2 := hco.mp c1
    have hv := rw_sun hw hA.2.1 c1
    have hv2 := rw_sun hw hA.2.2 c2
    have hR1 := hR.low (hF.low (d3_t hC))
    have hC1 := hC.act hF hS hH hv
    refine rs_sunday hR1.ri hR1.2.2.2.2.1 hP.2.2.2.1  (by omega) (fun _ K hK hN hH2 => ⟨?_, rfl, inv_mk (hC1.hi hK.hi) (hR1.act hK hN hH2 hv2) (hP.act ⟨(sunF_ag hA.1).1, hv, hv2⟩)⟩) (fun c3 => absurd c2 c3)
    rw [(sunF_ag hA.1).2]
  · exact rs_sunday hR.ri hR.2.2.2.2.1 hP.2.2.2.1  (by omega) (fun c2 => absurd (hco.mpr c2) c1) (fun _ K hK => ⟨rfl, rfl, inv_mk (hC.hi hK.rq.hi) (hR.rq hK.rq) hP⟩)
theorem bo_undo {l : Launch} {G : mG} {d : Nat} {I : mI} {X : mX}  (hd : 100 ≤ d) (h : INV I X)  : both l G d I X m_X10_undo [some (vR 0)] m_X11_undo [some (vR 111)] := by
  obtain ⟨L, D, T, S, S', Z, H, H', Bx, Bx', m, n, g, e, rfl, hC, hR, hP⟩ := h
  have hA := hP.ag
  have hw : tw T := hC.1.2.2.2.2.2.1
  have e4 : H.2 = H'.2 := hP.2.2.2.2.1.1
  have hH0 := hP.2.2.2.2.1
  refine sp_undo hC.1 hC.2.1 (by omega) (fun c1 J hF hS hH => ⟨_, rfl, rfl, ?_⟩) (fun c1 => ⟨_, rfl, rfl, ?_⟩)
  · have c2 : 0 < H'.2.1 := by rw [← e4]; exact c1
    have hg := hH0.2.2 (H.2.1 - 1) (by have := hH0.2.1; omega)
    have hg2 : rwOk T (H'.1 (H'.2.1 - 1)) := by have q := hg.2.2; rw [e4] at q; exact q
    have hR1 := hR.low (hF.low (d3_t hC))
    have hC1 := hC.act hF hS hH hg.2.1
    refine rs_undo hR1.ri hR1.2.2.2.2.1 hP.2.2.2.1 (by omega) (fun _ K hK hN hH2 => ⟨rfl, rfl, inv_mk (hC1.hi hK.hi) (hR1.act hK hN hH2 hg2) ⟨hP.1, hP.2.1, rfl, rfl, ⟨?_, ?_, fun i hi => hH0.2.2 i hi⟩, hP.2.2.2.2.2⟩⟩) (fun c3 => absurd c2 c3)
    · show (H.2.1 - 1, H.2.2) = (H'.2.1 - 1, H'.2.2)
      rw [e4]
    · show H.2.1 - 1 ≤ H.2.2
      have := hH0.2.1
      omega
  · exact rs_undo hR.ri hR.2.2.2.2.1 hP.2.2.2.1 (by omega) (fun c2 => absurd (by rw [e4]; exact c2) c1) (fun _ => ⟨rfl, rfl, inv_mk hC hR hP⟩)
theorem bo_redo {l : Launch} {G : mG} {d : Nat} {I : mI} {X : mX}  (hd : 100 ≤ d) (h : INV I X)  : both l G d I X m_X10_redo [some (vR 0)] m_X11_redo [some (vR 111)] := by
  obtain ⟨L, D, T, S, S', Z, H, H', Bx, Bx', m, n, g, e, rfl, hC, hR, hP⟩ := h
  have hA := hP.ag
  have hw : tw T := hC.1.2.2.2.2.2.1
  have e4 : H.2 = H'.2 := hP.2.2.2.2.1.1
  have hH0 := hP.2.2.2.2.1
  refine sp_redo hC.1 hC.2.1 (by omega) (fun c1 J hF hS hH => ⟨_, rfl, rfl, ?_⟩) (fun c1 => ⟨_, rfl, rfl, ?_⟩)
  · have c2 : H'.2.1 < H'.2.2 := by rw [← e4]; exact c1
    have hg := hH0.2.2 (H.2.1 + 1) (by have := hH0.2.1; omega)
    have hg2 : rwOk T (H'.1 (H'.2.1 + 1)) := by have q := hg.2.2; rw [e4] at q; exact q
    have hR1 := hR.low (hF.low (d3_t hC))
    have hC1 := hC.act hF hS hH hg.2.1
    refine rs_redo hR1.ri hR1.2.2.2.2.1 hP.2.2.2.1 (by omega) (fun _ K hK hN hH2 => ⟨rfl, rfl, inv_mk (hC1.hi hK.hi) (hR1.act hK hN hH2 hg2) ⟨hP.1, hP.2.1, rfl, rfl, ⟨?_, ?_, fun i hi => hH0.2.2 i hi⟩, hP.2.2.2.2.2⟩⟩) (fun c3 => absurd c2 c3)
    · show (H.2.1 + 1, H.2.2) = (H'.2.1 + 1, H'.2.2)
      rw [e4]
    · show H.2.1 + 1 ≤ H.2.2
      have := hH0.2.1
      omega
  · exact rs_redo hR.ri hR.2.2.2.2.1 hP.2.2.2.1 (by omega) (fun c2 => absurd (by rw [e4]; exact c2) c1) (fun _ => ⟨rfl, rfl, inv_mk hC hR hP⟩)
theorem bo_back {l : Launch} {G : mG} {d : Nat} {I : mI} {X : mX} {a : Int} (hd : 100 ≤ d) (h : INV I X) (h_a : inR a) : both l G d I X m_X10_back [some (vR 0), some (vI a)] m_X11_back [some (vR 111), some (vI a), none] := by
  obtain ⟨L, D, T, S, S', Z, H, H', Bx, Bx', m, n, g, e, rfl, hC, hR, hP⟩ := h
  have hA := hP.ag
  have hw : tw T := hC.1.2.2.2.2.2.1
  refine sp_back hC.1 hC.2.2.1 h_a (by omega) (fun c1 J hF hS hH => ⟨_, rfl, rfl, ?_⟩) (fun c1 => ⟨_, rfl, rfl, ?_⟩)
  · have hg := hP.2.2.2.2.2 a.toNat (by omega) c1.2
    have hR1 := hR.low (hF.low (d3_t hC))
    have hC1 := hC.act hF hS hH hg.2.1
    refine rs_back hR1.ri hR1.2.2.2.2.2.1 h_a (by omega) (fun _ K hK hN hH2 => ⟨?_, rfl, inv_mk (hC1.hi hK.hi) (hR1.act hK hN hH2 hg.2.2) ⟨hP.1, hP.2.1, rfl, rfl, ⟨rfl, Nat.le_refl _, fun i hi => hg⟩, hP.2.2.2.2.2⟩⟩) (fun c3 => absurd c1 c3)
    rw [hg.1.2.2.1]
  · exact rs_back hR.ri hR.2.2.2.2.2.1 h_a (by omega) (fun c2 => absurd c2 c1) (fun _ => ⟨rfl, rfl, inv_mk hC hR hP⟩)
theorem bo_image {l : Launch} {G : mG} {d : Nat} {I : mI} {X : mX} {a : Int} (hd : 100 ≤ d) (h : INV I X) (h_a : inR a) : both l G d I X m_X10_image [some (vR 0), some (vI a)] m_X11_image [some (vR 111), some (vI a), none] := by
  obtain ⟨L, D, T, S, S', Z, H, H', Bx, Bx', m, n, g, e, rfl, hC, hR, hP⟩ := h
  have hA := hP.ag
  have hw : tw T := hC.1.2.2.2.2.2.1
  refine sp_image hC.1 hC.2.2.1 h_a (by omega) (fun c1 J hF hB => ⟨_, rfl, rfl, ?_⟩) (fun c1 => ⟨_, rfl, rfl, ?_⟩)
  · have hR1 := hR.low (fun b hb => hF b (by omega) (by omega))
    have hC1 := hC.box (by omega) hF hB
    refine rs_image hR1.ri hR1.2.2.2.2.2.1 h_a (by omega) (fun _ K hK hB2 => ⟨?_, rfl, inv_mk (hC1.hi (fun b hb => hK b (by omega) (by omega))) (hR1.box hK hB2) ⟨hP.1, hP.2.1, hP.2.2.1, hP.2.2.2.1, hP.2.2.2.2.1, fun i hi hb => ?_⟩⟩) (fun c3 => absurd c1 c3)
    · rw [hA.1.2.2.1]
    · show agR T (if i = a.toNat then S else Bx i) (if i = a.toNat then S' else Bx' i)
      by_cases z : i = a.toNat
      · rw [if_pos z, if_pos z]; exact hA
      · rw [if_neg z, if_neg z]
        rw [Nat.testBit_or, Nat.testBit_two_pow, decide_eq_false (fun x => z x.symm), Bool.or_false] at hb
        exact hP.2.2.2.2.2 i hi hb
  · exact rs_image hR.ri hR.2.2.2.2.2.1 h_a (by omega) (fun c2 => absurd c2 c1) (fun _ => ⟨rfl, rfl, inv_mk hC hR hP⟩)
theorem bo_sits {l : Launch} {G : mG} {d : Nat} {I : mI} {X : mX} {a bb : Int} (hd : 100 ≤ d) (h : INV I X) (h_a : inR a) (h_bb : bb = 0 ∨ bb = 1) : both l G d I X m_X10_sits [some (vR 0), some (vI a), some (vI bb)] m_X11_sits [some (vR 111), some (vI a), some (vI bb)] := by
  obtain ⟨L, D, T, S, S', Z, H, H', Bx, Bx', m, n, g, e, rfl, hC, hR, hP⟩ := h
  have hA := hP.ag
  have hw : tw T := hC.1.2.2.2.2.2.1
  have hz : zw Z := hC.1.2.2.2.2.2.2.2.1
  have bp := tw_p hw
  have bc := tw_c hw
  have b7 := hz.2.1
  refine sp_sits hC.1 h_a h_bb (by omega) (fun c1 J hF hZ => ⟨_, rfl, rfl, ?_⟩) (fun c1 => ⟨_, rfl, rfl, ?_⟩)
  · have hz1 := tell_zw (so := 0) (su := a) (dg := 0) (is := bb) hz c1.2 (by decide) (by omega) (by decide) h_bb
    have hk1 := tell_zk (T := T) (so := 0) (su := a) (dg := 0) (is := bb) hP.2.1 hz (fun z => absurd z (by decide))
    have hR1 := hR.low (fun b hb => hF b (by omega))
    have hC1 := hC.say hF hZ hz1
    exact rs_sits hR1.1 hw hR1.2.2.2.2.2.2.1 hz h_a h_bb (by omega) (fun _ K hK hZ2 => ⟨rfl, rfl, inv_mk (hC1.hi hK.hi) (hR1.say hK hZ2 hz1) (hP.say hk1)⟩) (fun c3 => absurd c1 c3)
  · exact rs_sits hR.1 hw hR.2.2.2.2.2.2.1 hz h_a h_bb (by omega) (fun c2 => absurd c2 c1) (fun _ => ⟨rfl, rfl, inv_mk hC hR hP⟩)
theorem bo_knew {l : Launch} {G : mG} {d : Nat} {I : mI} {X : mX} {a bb : Int} (hd : 100 ≤ d) (h : INV I X) (h_a : inR a) (h_bb : bb = 0 ∨ bb = 1) : both l G d I X m_X10_knew [some (vR 0), some (vI a), some (vI bb)] m_X11_knew [some (vR 111), some (vI a), some (vI bb)] := by
  obtain ⟨L, D, T, S, S', Z, H, H', Bx, Bx', m, n, g, e, rfl, hC, hR, hP⟩ := h
  have hA := hP.ag
  have hw : tw T := hC.1.2.2.2.2.2.1
  have hz : zw Z := hC.1.2.2.2.2.2.2.2.1
  have bp := tw_p hw
  have bc := tw_c hw
  have b7 := hz.2.1
  refine sp_knew hC.1 h_a h_bb (by omega) (fun c1 J hF hZ => ⟨_, rfl, rfl, ?_⟩) (fun c1 => ⟨_, rfl, rfl, ?_⟩)
  · have hz1 := tell_zw (so := 1) (su := a) (dg := 0) (is := bb) hz c1.2 (by decide) (by omega) (by decide) h_bb
    have hk1 := tell_zk (T := T) (so := 1) (su := a) (dg := 0) (is := bb) hP.2.1 hz (fun z => absurd z (by decide))
    have hR1 := hR.low (fun b hb => hF b (by omega))
    have hC1 := hC.say hF hZ hz1
    exact rs_knew hR1.1 hw hR1.2.2.2.2.2.2.1 hz h_a h_bb (by omega) (fun _ K hK hZ2 => ⟨rfl, rfl, inv_mk (hC1.hi hK.hi) (hR1.say hK hZ2 hz1) (hP.say hk1)⟩) (fun c3 => absurd c1 c3)
  · exact rs_knew hR.1 hw hR.2.2.2.2.2.2.1 hz h_a h_bb (by omega) (fun c2 => absurd c2 c1) (fun _ => ⟨rfl, rfl, inv_mk hC hR hP⟩)
theorem bo_kin {l : Launch} {G : mG} {d : Nat} {I : mI} {X : mX} {a f bb : Int} (hd : 100 ≤ d) (h : INV I X) (h_a : inR a) (h_f : inR f) (h_bb : bb = 0 ∨ bb = 1) : both l G d I X m_X10_kin [some (vR 0), some (vI a), some (vI f), some (vI bb)] m_X11_kin [some (vR 111), some (vI a), some (vI f), some (vI bb)] := by
  obtain ⟨L, D, T, S, S', Z, H, H', Bx, Bx', m, n, g, e, rfl, hC, hR, hP⟩ := h
  have hA := hP.ag
  have hw : tw T := hC.1.2.2.2.2.2.1
  have hz : zw Z := hC.1.2.2.2.2.2.2.2.1
  have bp := tw_p hw
  have bc := tw_c hw
  have b7 := hz.2.1
  refine sp_kin hC.1 h_a h_f h_bb (by omega) (fun c1 J hF hZ => ⟨_, rfl, rfl, ?_⟩) (fun c1 => ⟨_, rfl, rfl, ?_⟩)
  · have hz1 := tell_zw (so := 2) (su := a) (dg := f) (is := bb) hz c1.2 (by decide) (by omega) c1.1.2 h_bb
    have hk1 := tell_zk (T := T) (so := 2) (su := a) (dg := f) (is := bb) hP.2.1 hz (fun _ => c1.1.1.2)
    have hR1 := hR.low (fun b hb => hF b (by omega))
    have hC1 := hC.say hF hZ hz1
    exact rs_kin hR1.1 hw hR1.2.2.2.2.2.2.1 hz h_a h_f h_bb (by omega) (fun _ K hK hZ2 => ⟨rfl, rfl, inv_mk (hC1.hi hK.hi) (hR1.say hK hZ2 hz1) (hP.say hk1)⟩) (fun c3 => absurd c1 c3)
  · exact rs_kin hR.1 hw hR.2.2.2.2.2.2.1 hz h_a h_f h_bb (by omega) (fun c2 => absurd c2 c1) (fun _ => ⟨rfl, rfl, inv_mk hC hR hP⟩)
theorem bo_untell {l : Launch} {G : mG} {d : Nat} {I : mI} {X : mX} {a : Int} (hd : 100 ≤ d) (h : INV I X) (h_a : inR a) : both l G d I X m_X10_untell [some (vR 0), some (vI a)] m_X11_untell [some (vR 111), some (vI a)] := by
  obtain ⟨L, D, T, S, S', Z, H, H', Bx, Bx', m, n, g, e, rfl, hC, hR, hP⟩ := h
  have hA := hP.ag
  have hw : tw T := hC.1.2.2.2.2.2.1
  have hz : zw Z := hC.1.2.2.2.2.2.2.2.1
  have bp := tw_p hw
  have bc := tw_c hw
  have b7 := hz.2.1
  refine sp_untell hC.1 h_a (by omega) (fun c1 J hF hZ => ⟨_, rfl, rfl, ?_⟩) (fun c1 => ⟨_, rfl, rfl, ?_⟩)
  · have hz1 := set_zw6 (a := a.toNat) (v := Z 0 7) hz (by omega)
    have hk1 := set_zk6 (T := T) (a := a.toNat) (v := Z 0 7) hP.2.1
    have hR1 := hR.low (fun b hb => hF b (by omega))
    have hC1 := hC.say hF hZ hz1
    exact rs_untell hR1.1 hw hR1.2.2.2.2.2.2.1 hz h_a (by omega) (fun _ K hK hZ2 => ⟨rfl, rfl, inv_mk (hC1.hi hK.hi) (hR1.say hK hZ2 hz1) (hP.say hk1)⟩) (fun c3 => absurd c1 c3)
  · exact rs_untell hR.1 hw hR.2.2.2.2.2.2.1 hz h_a (by omega) (fun c2 => absurd c2 c1) (fun _ => ⟨rfl, rfl, inv_mk hC hR hP⟩)
theorem bo_later {l : Launch} {G : mG} {d : Nat} {I : mI} {X : mX} {a : Int} (hd : 100 ≤ d) (h : INV I X) (h_a : inR a) : both l G d I X m_X10_later [some (vR 0), some (vI a)] m_X11_later [some (vR 111), some (vI a)] := by
  obtain ⟨L, D, T, S, S', Z, H, H', Bx, Bx', m, n, g, e, rfl, hC, hR, hP⟩ := h
  have hA := hP.ag
  have hw : tw T := hC.1.2.2.2.2.2.1
  have hz : zw Z := hC.1.2.2.2.2.2.2.2.1
  have bp := tw_p hw
  have bc := tw_c hw
  have b7 := hz.2.1
  refine sp_later hC.1 h_a (by omega) (fun c1 J hF hZ => ⟨_, rfl, rfl, ?_⟩) (fun c1 => ⟨_, rfl, rfl, ?_⟩)
  · have hz1 := set_zw7 (v := Z 0 7 + a) hz (by omega)
    have hk1 := set_zk7 (T := T) (v := Z 0 7 + a) hP.2.1
    have hR1 := hR.low (fun b hb => hF b (by omega))
    have hC1 := hC.say hF hZ hz1
    exact rs_later hR1.1 hw hR1.2.2.2.2.2.2.1 hz h_a (by omega) (fun _ K hK hZ2 => ⟨rfl, rfl, inv_mk (hC1.hi hK.hi) (hR1.say hK hZ2 hz1) (hP.say hk1)⟩) (fun c3 => absurd c1 c3)
  · exact rs_later hR.1 hw hR.2.2.2.2.2.2.1 hz h_a (by omega) (fun c2 => absurd c2 c1) (fun _ => ⟨rfl, rfl, inv_mk hC hR hP⟩)
theorem bo_feed {l : Launch} {G : mG} {d : Nat} {I : mI} {X : mX} {a b c x f : Int} (hd : 100 ≤ d) (h : INV I X) (h_a : inR a) (h_b : inR b) (h_c : inR c) (h_x : inR x) (h_f : inR f) : both l G d I X m_X10_feed [some (vR 0), some (vI a), some (vI b), some (vI c), some (vI x), some (vI f)] m_X11_feed [some (vR 111), some (vI a), some (vI b), some (vI c), some (vI x), some (vI f)] := by
  obtain ⟨L, D, T, S, S', Z, H, H', Bx, Bx', m, n, g, e, rfl, hC, hR, hP⟩ := h
  have hA := hP.ag
  have hw : tw T := hC.1.2.2.2.2.2.1
  have e1 := hC.2.2.2.1
  have e2 := hR.2.2.2.2.2.2.2.2.1
  have e3 : I 42 = g := hC.2.2.2.2.2.1
  have e5 := hC.2.2.2.2.1
  refine sp_feed hC.drop (by omega) (fun c1 J hF h3 h42 => ⟨_, rfl, rfl, ?_⟩) (fun c1 => ⟨_, rfl, rfl, ?_⟩)
  · have hR1 := hR.low (fun b hb => hF.1 b (by omega) (by omega))
    have hC1 := hC.tape (n1 := n + 20) hF (by rw [h3, e1]; omega) (by omega) h42
    have k1 := hR1.2.2.2.2.2.2.2.2.1
    refine rs_feed (by omega) (by omega) (fun c2 K hK h1 h2 => ⟨?_, rfl, inv_mk (hC1.hi hK.hi) (hR1.tape hK (by rw [h1, k1]; omega) (fun j => ?_)) hP⟩) (fun c3 => absurd (by omega) c3)
    · rw [e1, k1]
    · rw [h2, k1, e1, e3]
      exact feed_eq hR1.2.2.2.2.2.2.2.2.2.1 _ _ _ _ _ _ j
  · exact rs_feed (by omega) (by omega) (fun c2 => absurd (by omega) c1) (fun _ => ⟨rfl, rfl, inv_mk hC hR hP⟩)
theorem bo_end {l : Launch} {G : mG} {d : Nat} {I : mI} {X : mX} {a : Int} (hd : 100 ≤ d) (h : INV I X) (h_a : inR a) : both l G d I X m_X10_end [some (vR 0), some (vI a)] m_X11_end [some (vR 111), some (vI a)] := by
  obtain ⟨L, D, T, S, S', Z, H, H', Bx, Bx', m, n, g, e, rfl, hC, hR, hP⟩ := h
  have hA := hP.ag
  have hw : tw T := hC.1.2.2.2.2.2.1
  have e1 := hC.2.2.2.1
  have e2 := hR.2.2.2.2.2.2.2.2.1
  have e5 := hC.2.2.2.2.1
  refine sp_end hC.drop h_a (by omega) (fun c1 => ⟨_, rfl, rfl, ?_⟩) (fun c1 => ⟨_, rfl, rfl, ?_⟩)
  · have hF : Ft I (up I 41 3 a) := ⟨fun b h1 _ => funext fun j => up_c h1, fun j hj => up_j hj⟩
    have hR1 := hR.low (J := up I 41 3 a) (fun b hb => hF.1 b (by omega) (by omega))
    have hC1 := hC.tape (n1 := a.toNat) (g1 := g) hF (by rw [up_s]; omega) (by omega) ((funext fun j => up_c (by decide)).trans hC.2.2.2.2.2.1)
    have k1 := hR1.2.2.2.2.2.2.2.2.1
    have hK : Fu (up I 41 3 a) (up (up I 41 3 a) 111 1 a) := ⟨fun b h1 _ => funext fun j => up_c h1, fun j hj => up_j hj⟩
    exact rs_end (by omega) h_a (by omega) (fun _ => ⟨rfl, rfl, inv_mk (hC1.hi hK.hi) (hR1.tape hK (by rw [up_s]; omega) (fun j => by rw [up_c (by decide)]; exact hR1.2.2.2.2.2.2.2.2.2.1 j)) hP⟩) (fun c3 => absurd (by omega) c3)
  · exact rs_end (by omega) h_a (by omega) (fun c2 => absurd (by omega) c1) (fun _ => ⟨rfl, rfl, inv_mk hC hR hP⟩)
