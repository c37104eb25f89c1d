/-! THE LAW: the calls, one on each side -/
theorem pj_M.frame {H H1 : pj_Heap} {x : pj_Sg} (hM : pj_M H x) (hF : ∀ j, 108 < j → H1 j = H j) : pj_M H1 x := by
  obtain ⟨k, hs0, sl0, r0, r1, r2, a0, a1, a2, mid, lo, hi, fi, sp, nu, ic, td, ⟨hm, hf, hk, hh, hs, hv, hg, hA, hp⟩, hr⟩ := hM
  exact ⟨k, hs0, sl0, r0, r1, r2, a0, a1, a2, mid, lo, hi, fi, sp, nu, ic, td, ⟨(hF 109 (by decide)).trans hm, (hF 110 (by decide)).trans hf, (hF 111 (by decide)).trans hk, (hF 112 (by decide)).trans hh, (hF 113 (by decide)).trans hs, (hF 114 (by decide)).trans hv, (hF 115 (by decide)).trans hg, (hF 116 (by decide)).trans hA, (hF 117 (by decide)).trans hp⟩, hr⟩
theorem pj_M.cl {H : pj_Heap} {x : pj_Sg} (hM : pj_M H x) : pj_isU 6 (H 109) = true := by
  obtain ⟨k, hs0, sl0, r0, r1, r2, a0, a1, a2, mid, lo, hi, fi, sp, nu, ic, td, ⟨hm, -⟩, hr⟩ := hM
  rw [hm]
  rfl
theorem pj_C.frame {H H1 : pj_Heap} {x : pj_Sg} (h : pj_C H x) (hF : ∀ j, j < 109 → H1 j = H j) : pj_C H1 x := by
  obtain ⟨h0, h1, h2, ⟨⟨w, h3⟩, h3'⟩, h4, h5, h6⟩ := h
  exact ⟨⟨(hF 2 (by decide)).trans h0.1, (hF 3 (by decide)).trans h0.2⟩, (hF 4 (by decide)).trans h1, h2.frame (fun i hi => hF _ (by omega)), ⟨⟨w, h3.frame (fun i hi => hF _ (by omega))⟩, h3'.frame (fun i hi => hF _ (by omega))⟩, h4.frame (fun j a b => hF j (by omega)), h5.frame (fun j a b => hF j (by omega)), h6.frame (fun j a b => hF j b)⟩
section T70
variable {Ln i N S : Nat} {xs : Nat → Int32} {H : pj_Heap} {x : pj_Sg}
end T70
