/-! worlds up to order, by a closed check -/
theorem perm_ix {α : Type} {a b : List α} (n : Nat) (is : List Nat) (h0 : a.length = n) (h1 : is.isPerm (List.range n) = true) (h2 : is.filterMap (fun i => a[i]?) = b) : List.Perm a b := perm_idx is (by rw [h0]; exact h1) h2
