section

end
section AUX1
variable {l : Launch} {G : XG} {h : XH} {c n d : Nat}
theorem xno.at {F ks : List Nat} {a k : Nat} {vs : List Value} (hn : xno h F ks) (ha : h a = some (k, vs)) (hk : k ∈ ks) : a ∉ F := fun z => hn a z _ ha hk
theorem isL.fr {h' : XH} {F : List Nat} {a ea : Nat} {es : List Nat} (hL : isL G h a ea es) (hf : xfr h h' F) (hn : xno h F [k_ArrayList, k_aObject]) : isL G h' a ea es := by
  obtain ⟨mc, e1, e2⟩ := hL
  refine ⟨mc, hf.1 _ _ e1 (hn.at e1 (by decide)), e2.imp id (fun ⟨k, y1, y2⟩ => ⟨k, hf.1 _ _ y1 (hn.at y1 (by decide)), y2⟩)⟩
end AUX1
