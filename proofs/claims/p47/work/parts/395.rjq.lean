/-! the world after a call, said cell by cell, without a comparison of the two worlds as wholes (the kernel looks into them) -/
def rjq (ws ws' : va_W) : List Nat → Prop
  | [] => True
  | j :: js => (∃ c, ws'[j]? = some c ∧ ws[j]? = some c) ∧ rjq ws ws' js
theorem rjq.map {ws ws' : va_W} : ∀ {js : List Nat}, rjq ws ws' js → js.map (fun i => ws'[i]?) = js.map (fun i => ws[i]?)
  | [], _ => rfl
  | j :: js, h => by
    obtain ⟨⟨c, h1, h2⟩, h3⟩ := h
    rw [List.map_cons, List.map_cons, h1, h2, rjq.map h3]
theorem rj_by2 {ws w ws' : va_W} (is js : List Nat) (n : Nat) (h1 : ws.length = n) (h2 : ws'.length = n) (hn : va_nd is = true) (hc : ∀ k, k < n → k ∈ is ∨ k ∈ js) (hi : is.map (fun i => ws'[i]?) = w.map some) (hj : rjq ws ws' js) : rj ws is w = ws' := rj_by is js n h1 h2 hn hc hi hj.map
