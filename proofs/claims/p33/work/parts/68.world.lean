theorem LF.ext {X : XT} {s : SG} {G G2 : GT} (h : LF X s G) (hX : ∀ c i, X.2.1 c i = true → same6 G2 G (X.1 c i)) : LF (X.1, X.2.1, X.2.2.1, (fun _ => False), G2) s G2 := by
  refine ⟨fun c i hl => ?_, h.2.1, h.2.2.1, fun p hp => hp.elim⟩
  obtain ⟨⟨g1, g2, g3⟩, g4⟩ := h.1 c i hl
  have hs := hX c i hl
  refine ⟨⟨g1, hs.1.trans g2, hs.2.1.trans g3⟩, fun f hf => ?_⟩
  obtain ⟨k1, k2, k3, k4⟩ := g4 f hf
  exact ⟨(congrFun hs.2.2.1 f).trans k1, (congrFun hs.2.2.2.1 f).trans k2, (congrFun hs.2.2.2.2.2 f).trans k3, k4⟩
