section

end
section MO4
/-- the reference keeps its contracts -/
theorem ref_ok (l : Launch) (G : XG) : RefOK l G RF0 := by
  refine ⟨fun hd ho hc hn => c_Mo_init (by omega) ho hc hn, fun hR hf hn => hR.fr hf hn, fun ⟨rf, e, _⟩ => ⟨_, e⟩, fun ho => c_Mo_thrown ho, ?_⟩
  have k1 : ∀ {h : XH} {c n d : Nat} {M : XMt} {as : List Value} {w : Option Value}, XM l G d M as h c n (pK w c n) → XM l G d M as h c n (pM w c n) := fun hX => hX.mono (fun v h' c' n' hp => ⟨hp.1, by omega, by omega⟩)
  have k2 : ∀ {h : XH} {c n d o : Nat} {M : XMt} {as : List Value} {V : Option Value → Prop}, XM l G d M as h c n (pKt o c n V) → XM l G d M as h c n (pMt o c n V) := fun hX => hX.mono (fun v h' c' n' hp => ⟨hp.1, hp.2.1, by omega, by omega⟩)
  exact ⟨fun hch hd hR hc hn => k1 (m_type hR hch), fun hd hR hc hn => k2 (m_name (by omega) hR), fun hd hR hc hn => k2 (m_value (by omega) hR), fun hd hR hc hn => k2 (m_condition (by omega) hR), fun hd hR hc hn => k1 (m_place hR), fun hd hR hc hn => k2 (m_give (by omega) hR), fun hd hR hc hn => k1 (m_holds (by omega) hR), fun hd hR hc hn => k1 (m_ever (by omega) hR), fun hd hR hc hn => k1 (m_implies (by omega) hR), fun hd hR hc hn => k1 (m_apart (by omega) hR), fun hd hR hc hn => k1 (m_classes (by omega) hR), fun hd hR hc hn => k1 (m_many (by omega) hR), fun hd hR hc hn => k1 (m_inClass (by omega) hR), fun hd hR hc hn => k1 (m_sample (by omega) hR), fun hd hR hc hn => k1 (m_printed (by omega) hR)⟩
end MO4
