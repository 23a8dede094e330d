def g11 (G : tw_G) (a0 : Nat) (g : Nat → va_E) : Nat → va_E := (upE (upE (upE (upE (upE (upE (upE (upE (upE (upE (upE (upE (upE (upE (upE (upE (upE (upE (upE (upE (upE (upE (upE (upE (upE (upE (upE (upE (upE (upE (upE (upE (upE (upE (upE (upE (upE (upE g 1 (.inl (tw_cy G 1, (16, .inl (fun _ => 0))))) 0 (.inr (9, [.ref (a0 + 1), .null, .null, .null, .int 0, .null, .int 0, .null, .int 0, .int 0, .int 0, .int 0, .int 0, .int 0, .int 0, .int 0, .int 0, .int 0, .null, .int 0, .int 0, .int 0, .int 0, .null, .int 0, .null, .int 0, .int 0, .int 0, .null, .null, .null, .int 0, .int 0, .int 0, .null, .null, .null, .null, .null, .null, .null, .int 0, .int 0, .int 0, .int 0]))) 2 (.inl (tw_cy G 0, (128, .inl (fun _ => 0))))) 0 (.inr (9, [.ref (a0 + 1), .ref (a0 + 2), .null, .null, .int 0, .null, .int 0, .null, .int 0, .int 0, .int 0, .int 0, .int 0, .int 0, .int 0, .int 0, .int 0, .int 0, .null, .int 0, .int 0, .int 0, .int 0, .null, .int 0, .null, .int 0, .int 0, .int 0, .null, .null, .null, .int 0, .int 0, .int 0, .null, .null, .null, .null, .null, .null, .null, .int 0, .int 0, .int 0, .int 0]))) 3 (.inl (tw_cy G 0, (16, .inl (fun _ => 0))))) 0 (.inr (9, [.ref (a0 + 1), .ref (a0 + 2), .ref (a0 + 3), .null, .int 0, .null, .int 0, .null, .int 0, .int 0, .int 0, .int 0, .int 0, .int 0, .int 0, .int 0, .int 0, .int 0, .null, .int 0, .int 0, .int 0, .int 0, .null, .int 0, .null, .int 0, .int 0, .int 0, .null, .null, .null, .int 0, .int 0, .int 0, .null, .null, .null, .null, .null, .null, .null, .int 0, .int 0, .int 0, .int 0]))) 4 (.inl (tw_cy G 0, (640, .inl (fun _ => 0))))) 0 (.inr (9, [.ref (a0 + 1), .ref (a0 + 2), .ref (a0 + 3), .ref (a0 + 4), .int 0, .null, .int 0, .null, .int 0, .int 0, .int 0, .int 0, .int 0, .int 0, .int 0, .int 0, .int 0, .int 0, .null, .int 0, .int 0, .int 0, .int 0, .null, .int 0, .null, .int 0, .int 0, .int 0, .null, .null, .null, .int 0, .int 0, .int 0, .null, .null, .null, .null, .null, .null, .null, .int 0, .int 0, .int 0, .int 0]))) 5 (.inl (tw_cy G 0, (800, .inl (fun _ => 0))))) 0 (.inr (9, [.ref (a0 + 1), .ref (a0 + 2), .ref (a0 + 3), .ref (a0 + 4), .int 0, .ref (a0 + 5), .int 0, .null, .int 0, .int 0, .int 0, .int 0, .int 0, .int 0, .int 0, .int 0, .int 0, .int 0, .null, .int 0, .int 0, .int 0, .int 0, .null, .int 0, .null, .int 0, .int 0, .int 0, .null, .null, .null, .int 0, .int 0, .int 0, .null, .null, .null, .null, .null, .null, .null, .int 0, .int 0, .int 0, .int 0]))) 6 (.inl (tw_cy G 0, (800, .inl (fun _ => 0))))) 0 (.inr (9, [.ref (a0 + 1), .ref (a0 + 2), .ref (a0 + 3), .ref (a0 + 4), .int 0, .ref (a0 + 5), .int 0, .ref (a0 + 6), .int 0, .int 0, .int 0, .int 0, .int 0, .int 0, .int 0, .int 0, .int 0, .int 0, .null, .int 0, .int 0, .int 0, .int 0, .null, .int 0, .null, .int 0, .int 0, .int 0, .null, .null, .null, .int 0, .int 0, .int 0, .null, .null, .null, .null, .null, .null, .null, .int 0, .int 0, .int 0, .int 0]))) 7 (.inl (tw_cy G 0, (640, .inl (fun _ => 0))))) 0 (.inr (9, [.ref (a0 + 1), .ref (a0 + 2), .ref (a0 + 3), .ref (a0 + 4), .int 0, .ref (a0 + 5), .int 0, .ref (a0 + 6), .int 0, .int 0, .int 0, .int 0, .int 0, .int 0, .int 0, .int 0, .int 0, .int 0, .ref (a0 + 7), .int 0, .int 0, .int 0, .int 0, .null, .int 0, .null, .int 0, .int 0, .int 0, .null, .null, .null, .int 0, .int 0, .int 0, .null, .null, .null, .null, .null, .null, .null, .int 0, .int 0, .int 0, .int 0]))) 8 (.inl (tw_cy G 0, (800, .inl (fun _ => 0))))) 0 (.inr (9, [.ref (a0 + 1), .ref (a0 + 2), .ref (a0 + 3), .ref (a0 + 4), .int 0, .ref (a0 + 5), .int 0, .ref (a0 + 6), .int 0, .int 0, .int 0, .int 0, .int 0, .int 0, .int 0, .int 0, .int 0, .int 0, .ref (a0 + 7), .int 0, .int 0, .int 0, .int 0, .ref (a0 + 8), .int 0, .null, .int 0, .int 0, .int 0, .null, .null, .null, .int 0, .int 0, .int 0, .null, .null, .null, .null, .null, .null, .null, .int 0, .int 0, .int 0, .int 0]))) 9 (.inl (tw_cy G 0, (8, .inl (fun _ => 0))))) 0 (.inr (9, [.ref (a0 + 1), .ref (a0 + 2), .ref (a0 + 3), .ref (a0 + 4), .int 0, .ref (a0 + 5), .int 0, .ref (a0 + 6), .int 0, .int 0, .int 0, .int 0, .int 0, .int 0, .int 0, .int 0, .int 0, .int 0, .ref (a0 + 7), .int 0, .int 0, .int 0, .int 0, .ref (a0 + 8), .int 0, .ref (a0 + 9), .int 0, .int 0, .int 0, .null, .null, .null, .int 0, .int 0, .int 0, .null, .null, .null, .null, .null, .null, .null, .int 0, .int 0, .int 0, .int 0]))) 10 (.inl (tw_cy G 0, (8, .inl (fun _ => 0))))) 0 (.inr (9, [.ref (a0 + 1), .ref (a0 + 2), .ref (a0 + 3), .ref (a0 + 4), .int 0, .ref (a0 + 5), .int 0, .ref (a0 + 6), .int 0, .int 0, .int 0, .int 0, .int 0, .int 0, .int 0, .int 0, .int 0, .int 0, .ref (a0 + 7), .int 0, .int 0, .int 0, .int 0, .ref (a0 + 8), .int 0, .ref (a0 + 9), .int 0, .int 0, .int 0, .ref (a0 + 10), .null, .null, .int 0, .int 0, .int 0, .null, .null, .null, .null, .null, .null, .null, .int 0, .int 0, .int 0, .int 0]))) 11 (.inl (tw_cy G 0, (4800, .inl (fun _ => 0))))) 0 (.inr (9, [.ref (a0 + 1), .ref (a0 + 2), .ref (a0 + 3), .ref (a0 + 4), .int 0, .ref (a0 + 5), .int 0, .ref (a0 + 6), .int 0, .int 0, .int 0, .int 0, .int 0, .int 0, .int 0, .int 0, .int 0, .int 0, .ref (a0 + 7), .int 0, .int 0, .int 0, .int 0, .ref (a0 + 8), .int 0, .ref (a0 + 9), .int 0, .int 0, .int 0, .ref (a0 + 10), .ref (a0 + 11), .null, .int 0, .int 0, .int 0, .null, .null, .null, .null, .null, .null, .null, .int 0, .int 0, .int 0, .int 0]))) 12 (.inl (tw_cy G 0, (40, .inl (fun _ => 0))))) 0 (.inr (9, [.ref (a0 + 1), .ref (a0 + 2), .ref (a0 + 3), .ref (a0 + 4), .int 0, .ref (a0 + 5), .int 0, .ref (a0 + 6), .int 0, .int 0, .int 0, .int 0, .int 0, .int 0, .int 0, .int 0, .int 0, .int 0, .ref (a0 + 7), .int 0, .int 0, .int 0, .int 0, .ref (a0 + 8), .int 0, .ref (a0 + 9), .int 0, .int 0, .int 0, .ref (a0 + 10), .ref (a0 + 11), .ref (a0 + 12), .int 0, .int 0, .int 0, .null, .null, .null, .null, .null, .null, .null, .int 0, .int 0, .int 0, .int 0]))) 13 (.inl (tw_cy G 0, (3, .inl (fun _ => 0))))) 0 (.inr (9, [.ref (a0 + 1), .ref (a0 + 2), .ref (a0 + 3), .ref (a0 + 4), .int 0, .ref (a0 + 5), .int 0, .ref (a0 + 6), .int 0, .int 0, .int 0, .int 0, .int 0, .int 0, .int 0, .int 0, .int 0, .int 0, .ref (a0 + 7), .int 0, .int 0, .int 0, .int 0, .ref (a0 + 8), .int 0, .ref (a0 + 9), .int 0, .int 0, .int 0, .ref (a0 + 10), .ref (a0 + 11), .ref (a0 + 12), .int 0, .int 0, .int 0, .ref (a0 + 13), .null, .null, .null, .null, .null, .null, .int 0, .int 0, .int 0, .int 0]))) 14 (.inl (tw_cy G 0, (3, .inl (fun _ => 0))))) 0 (.inr (9, [.ref (a0 + 1), .ref (a0 + 2), .ref (a0 + 3), .ref (a0 + 4), .int 0, .ref (a0 + 5), .int 0, .ref (a0 + 6), .int 0, .int 0, .int 0, .int 0, .int 0, .int 0, .int 0, .int 0, .int 0, .int 0, .ref (a0 + 7), .int 0, .int 0, .int 0, .int 0, .ref (a0 + 8), .int 0, .ref (a0 + 9), .int 0, .int 0, .int 0, .ref (a0 + 10), .ref (a0 + 11), .ref (a0 + 12), .int 0, .int 0, .int 0, .ref (a0 + 13), .ref (a0 + 14), .null, .null, .null, .null, .null, .int 0, .int 0, .int 0, .int 0]))) 15 (.inl (tw_cy G 0, (3, .inl (fun _ => 0))))) 0 (.inr (9, [.ref (a0 + 1), .ref (a0 + 2), .ref (a0 + 3), .ref (a0 + 4), .int 0, .ref (a0 + 5), .int 0, .ref (a0 + 6), .int 0, .int 0, .int 0, .int 0, .int 0, .int 0, .int 0, .int 0, .int 0, .int 0, .ref (a0 + 7), .int 0, .int 0, .int 0, .int 0, .ref (a0 + 8), .int 0, .ref (a0 + 9), .int 0, .int 0, .int 0, .ref (a0 + 10), .ref (a0 + 11), .ref (a0 + 12), .int 0, .int 0, .int 0, .ref (a0 + 13), .ref (a0 + 14), .ref (a0 + 15), .null, .null, .null, .null, .int 0, .int 0, .int 0, .int 0]))) 16 (.inl (tw_cy G 0, (1800, .inl (fun _ => 0))))) 0 (.inr (9, [.ref (a0 + 1), .ref (a0 + 2), .ref (a0 + 3), .ref (a0 + 4), .int 0, .ref (a0 + 5), .int 0, .ref (a0 + 6), .int 0, .int 0, .int 0, .int 0, .int 0, .int 0, .int 0, .int 0, .int 0, .int 0, .ref (a0 + 7), .int 0, .int 0, .int 0, .int 0, .ref (a0 + 8), .int 0, .ref (a0 + 9), .int 0, .int 0, .int 0, .ref (a0 + 10), .ref (a0 + 11), .ref (a0 + 12), .int 0, .int 0, .int 0, .ref (a0 + 13), .ref (a0 + 14), .ref (a0 + 15), .ref (a0 + 16), .null, .null, .null, .int 0, .int 0, .int 0, .int 0]))) 17 (.inl (tw_cy G 0, (3, .inl (fun _ => 0))))) 0 (.inr (9, [.ref (a0 + 1), .ref (a0 + 2), .ref (a0 + 3), .ref (a0 + 4), .int 0, .ref (a0 + 5), .int 0, .ref (a0 + 6), .int 0, .int 0, .int 0, .int 0, .int 0, .int 0, .int 0, .int 0, .int 0, .int 0, .ref (a0 + 7), .int 0, .int 0, .int 0, .int 0, .ref (a0 + 8), .int 0, .ref (a0 + 9), .int 0, .int 0, .int 0, .ref (a0 + 10), .ref (a0 + 11), .ref (a0 + 12), .int 0, .int 0, .int 0, .ref (a0 + 13), .ref (a0 + 14), .ref (a0 + 15), .ref (a0 + 16), .ref (a0 + 17), .null, .null, .int 0, .int 0, .int 0, .int 0]))) 18 (.inl (tw_cy G 0, (300, .inl (fun _ => 0))))) 0 (.inr (9, [.ref (a0 + 1), .ref (a0 + 2), .ref (a0 + 3), .ref (a0 + 4), .int 0, .ref (a0 + 5), .int 0, .ref (a0 + 6), .int 0, .int 0, .int 0, .int 0, .int 0, .int 0, .int 0, .int 0, .int 0, .int 0, .ref (a0 + 7), .int 0, .int 0, .int 0, .int 0, .ref (a0 + 8), .int 0, .ref (a0 + 9), .int 0, .int 0, .int 0, .ref (a0 + 10), .ref (a0 + 11), .ref (a0 + 12), .int 0, .int 0, .int 0, .ref (a0 + 13), .ref (a0 + 14), .ref (a0 + 15), .ref (a0 + 16), .ref (a0 + 17), .ref (a0 + 18), .null, .int 0, .int 0, .int 0, .int 0]))) 19 (.inl (tw_cy G 0, (300, .inl (fun _ => 0))))) 0 (.inr (9, [.ref (a0 + 1), .ref (a0 + 2), .ref (a0 + 3), .ref (a0 + 4), .int 0, .ref (a0 + 5), .int 0, .ref (a0 + 6), .int 0, .int 0, .int 0, .int 0, .int 0, .int 0, .int 0, .int 0, .int 0, .int 0, .ref (a0 + 7), .int 0, .int 0, .int 0, .int 0, .ref (a0 + 8), .int 0, .ref (a0 + 9), .int 0, .int 0, .int 0, .ref (a0 + 10), .ref (a0 + 11), .ref (a0 + 12), .int 0, .int 0, .int 0, .ref (a0 + 13), .ref (a0 + 14), .ref (a0 + 15), .ref (a0 + 16), .ref (a0 + 17), .ref (a0 + 18), .ref (a0 + 19), .int 0, .int 0, .int 0, .int 0])))
theorem g11_0 (G : tw_G) (a0 : Nat) (g : Nat → va_E) : g11 G a0 g 0 = .inr (9, [.ref (a0 + 1), .ref (a0 + 2), .ref (a0 + 3), .ref (a0 + 4), .int 0, .ref (a0 + 5), .int 0, .ref (a0 + 6), .int 0, .int 0, .int 0, .int 0, .int 0, .int 0, .int 0, .int 0, .int 0, .int 0, .ref (a0 + 7), .int 0, .int 0, .int 0, .int 0, .ref (a0 + 8), .int 0, .ref (a0 + 9), .int 0, .int 0, .int 0, .ref (a0 + 10), .ref (a0 + 11), .ref (a0 + 12), .int 0, .int 0, .int 0, .ref (a0 + 13), .ref (a0 + 14), .ref (a0 + 15), .ref (a0 + 16), .ref (a0 + 17), .ref (a0 + 18), .ref (a0 + 19), .int 0, .int 0, .int 0, .int 0]) := (upE_s _ _ _)
theorem g11_1 (G : tw_G) (a0 : Nat) (g : Nat → va_E) : g11 G a0 g 1 = .inl (tw_cy G 1, (16, .inl (fun _ => 0))) := (Eq.trans (upE_n _ _ (by omega)) (Eq.trans (upE_n _ _ (by omega)) (Eq.trans (upE_n _ _ (by omega)) (Eq.trans (upE_n _ _ (by omega)) (Eq.trans (upE_n _ _ (by omega)) (Eq.trans (upE_n _ _ (by omega)) (Eq.trans (upE_n _ _ (by omega)) (Eq.trans (upE_n _ _ (by omega)) (Eq.trans (upE_n _ _ (by omega)) (Eq.trans (upE_n _ _ (by omega)) (Eq.trans (upE_n _ _ (by omega)) (Eq.trans (upE_n _ _ (by omega)) (Eq.trans (upE_n _ _ (by omega)) (Eq.trans (upE_n _ _ (by omega)) (Eq.trans (upE_n _ _ (by omega)) (Eq.trans (upE_n _ _ (by omega)) (Eq.trans (upE_n _ _ (by omega)) (Eq.trans (upE_n _ _ (by omega)) (Eq.trans (upE_n _ _ (by omega)) (Eq.trans (upE_n _ _ (by omega)) (Eq.trans (upE_n _ _ (by omega)) (Eq.trans (upE_n _ _ (by omega)) (Eq.trans (upE_n _ _ (by omega)) (Eq.trans (upE_n _ _ (by omega)) (Eq.trans (upE_n _ _ (by omega)) (Eq.trans (upE_n _ _ (by omega)) (Eq.trans (upE_n _ _ (by omega)) (Eq.trans (upE_n _ _ (by omega)) (Eq.trans (upE_n _ _ (by omega)) (Eq.trans (upE_n _ _ (by omega)) (Eq.trans (upE_n _ _ (by omega)) (Eq.trans (upE_n _ _ (by omega)) (Eq.trans (upE_n _ _ (by omega)) (Eq.trans (upE_n _ _ (by omega)) (Eq.trans (upE_n _ _ (by omega)) (Eq.trans (upE_n _ _ (by omega)) (Eq.trans (upE_n _ _ (by omega)) (upE_s _ _ _))))))))))))))))))))))))))))))))))))))
theorem g11_2 (G : tw_G) (a0 : Nat) (g : Nat → va_E) : g11 G a0 g 2 = .inl (tw_cy G 0, (128, .inl (fun _ => 0))) := (Eq.trans (upE_n _ _ (by omega)) (Eq.trans (upE_n _ _ (by omega)) (Eq.trans (upE_n _ _ (by omega)) (Eq.trans (upE_n _ _ (by omega)) (Eq.trans (upE_n _ _ (by omega)) (Eq.trans (upE_n _ _ (by omega)) (Eq.trans (upE_n _ _ (by omega)) (Eq.trans (upE_n _ _ (by omega)) (Eq.trans (upE_n _ _ (by omega)) (Eq.trans (upE_n _ _ (by omega)) (Eq.trans (upE_n _ _ (by omega)) (Eq.trans (upE_n _ _ (by omega)) (Eq.trans (upE_n _ _ (by omega)) (Eq.trans (upE_n _ _ (by omega)) (Eq.trans (upE_n _ _ (by omega)) (Eq.trans (upE_n _ _ (by omega)) (Eq.trans (upE_n _ _ (by omega)) (Eq.trans (upE_n _ _ (by omega)) (Eq.trans (upE_n _ _ (by omega)) (Eq.trans (upE_n _ _ (by omega)) (Eq.trans (upE_n _ _ (by omega)) (Eq.trans (upE_n _ _ (by omega)) (Eq.trans (upE_n _ _ (by omega)) (Eq.trans (upE_n _ _ (by omega)) (Eq.trans (upE_n _ _ (by omega)) (Eq.trans (upE_n _ _ (by omega)) (Eq.trans (upE_n _ _ (by omega)) (Eq.trans (upE_n _ _ (by omega)) (Eq.trans (upE_n _ _ (by omega)) (Eq.trans (upE_n _ _ (by omega)) (Eq.trans (upE_n _ _ (by omega)) (Eq.trans (upE_n _ _ (by omega)) (Eq.trans (upE_n _ _ (by omega)) (Eq.trans (upE_n _ _ (by omega)) (Eq.trans (upE_n _ _ (by omega)) (upE_s _ _ _))))))))))))))))))))))))))))))))))))
theorem g11_3 (G : tw_G) (a0 : Nat) (g : Nat → va_E) : g11 G a0 g 3 = .inl (tw_cy G 0, (16, .inl (fun _ => 0))) := (Eq.trans (upE_n _ _ (by omega)) (Eq.trans (upE_n _ _ (by omega)) (Eq.trans (upE_n _ _ (by omega)) (Eq.trans (upE_n _ _ (by omega)) (Eq.trans (upE_n _ _ (by omega)) (Eq.trans (upE_n _ _ (by omega)) (Eq.trans (upE_n _ _ (by omega)) (Eq.trans (upE_n _ _ (by omega)) (Eq.trans (upE_n _ _ (by omega)) (Eq.trans (upE_n _ _ (by omega)) (Eq.trans (upE_n _ _ (by omega)) (Eq.trans (upE_n _ _ (by omega)) (Eq.trans (upE_n _ _ (by omega)) (Eq.trans (upE_n _ _ (by omega)) (Eq.trans (upE_n _ _ (by omega)) (Eq.trans (upE_n _ _ (by omega)) (Eq.trans (upE_n _ _ (by omega)) (Eq.trans (upE_n _ _ (by omega)) (Eq.trans (upE_n _ _ (by omega)) (Eq.trans (upE_n _ _ (by omega)) (Eq.trans (upE_n _ _ (by omega)) (Eq.trans (upE_n _ _ (by omega)) (Eq.trans (upE_n _ _ (by omega)) (Eq.trans (upE_n _ _ (by omega)) (Eq.trans (upE_n _ _ (by omega)) (Eq.trans (upE_n _ _ (by omega)) (Eq.trans (upE_n _ _ (by omega)) (Eq.trans (upE_n _ _ (by omega)) (Eq.trans (upE_n _ _ (by omega)) (Eq.trans (upE_n _ _ (by omega)) (Eq.trans (upE_n _ _ (by omega)) (Eq.trans (upE_n _ _ (by omega)) (Eq.trans (upE_n _ _ (by omega)) (upE_s _ _ _))))))))))))))))))))))))))))))))))
theorem g11_4 (G : tw_G) (a0 : Nat) (g : Nat → va_E) : g11 G a0 g 4 = .inl (tw_cy G 0, (640, .inl (fun _ => 0))) := (Eq.trans (upE_n _ _ (by omega)) (Eq.trans (upE_n _ _ (by omega)) (Eq.trans (upE_n _ _ (by omega)) (Eq.trans (upE_n _ _ (by omega)) (Eq.trans (upE_n _ _ (by omega)) (Eq.trans (upE_n _ _ (by omega)) (Eq.trans (upE_n _ _ (by omega)) (Eq.trans (upE_n _ _ (by omega)) (Eq.trans (upE_n _ _ (by omega)) (Eq.trans (upE_n _ _ (by omega)) (Eq.trans (upE_n _ _ (by omega)) (Eq.trans (upE_n _ _ (by omega)) (Eq.trans (upE_n _ _ (by omega)) (Eq.trans (upE_n _ _ (by omega)) (Eq.trans (upE_n _ _ (by omega)) (Eq.trans (upE_n _ _ (by omega)) (Eq.trans (upE_n _ _ (by omega)) (Eq.trans (upE_n _ _ (by omega)) (Eq.trans (upE_n _ _ (by omega)) (Eq.trans (upE_n _ _ (by omega)) (Eq.trans (upE_n _ _ (by omega)) (Eq.trans (upE_n _ _ (by omega)) (Eq.trans (upE_n _ _ (by omega)) (Eq.trans (upE_n _ _ (by omega)) (Eq.trans (upE_n _ _ (by omega)) (Eq.trans (upE_n _ _ (by omega)) (Eq.trans (upE_n _ _ (by omega)) (Eq.trans (upE_n _ _ (by omega)) (Eq.trans (upE_n _ _ (by omega)) (Eq.trans (upE_n _ _ (by omega)) (Eq.trans (upE_n _ _ (by omega)) (upE_s _ _ _))))))))))))))))))))))))))))))))
theorem g11_5 (G : tw_G) (a0 : Nat) (g : Nat → va_E) : g11 G a0 g 5 = .inl (tw_cy G 0, (800, .inl (fun _ => 0))) := (Eq.trans (upE_n _ _ (by omega)) (Eq.trans (upE_n _ _ (by omega)) (Eq.trans (upE_n _ _ (by omega)) (Eq.trans (upE_n _ _ (by omega)) (Eq.trans (upE_n _ _ (by omega)) (Eq.trans (upE_n _ _ (by omega)) (Eq.trans (upE_n _ _ (by omega)) (Eq.trans (upE_n _ _ (by omega)) (Eq.trans (upE_n _ _ (by omega)) (Eq.trans (upE_n _ _ (by omega)) (Eq.trans (upE_n _ _ (by omega)) (Eq.trans (upE_n _ _ (by omega)) (Eq.trans (upE_n _ _ (by omega)) (Eq.trans (upE_n _ _ (by omega)) (Eq.trans (upE_n _ _ (by omega)) (Eq.trans (upE_n _ _ (by omega)) (Eq.trans (upE_n _ _ (by omega)) (Eq.trans (upE_n _ _ (by omega)) (Eq.trans (upE_n _ _ (by omega)) (Eq.trans (upE_n _ _ (by omega)) (Eq.trans (upE_n _ _ (by omega)) (Eq.trans (upE_n _ _ (by omega)) (Eq.trans (upE_n _ _ (by omega)) (Eq.trans (upE_n _ _ (by omega)) (Eq.trans (upE_n _ _ (by omega)) (Eq.trans (upE_n _ _ (by omega)) (Eq.trans (upE_n _ _ (by omega)) (Eq.trans (upE_n _ _ (by omega)) (Eq.trans (upE_n _ _ (by omega)) (upE_s _ _ _))))))))))))))))))))))))))))))
theorem g11_6 (G : tw_G) (a0 : Nat) (g : Nat → va_E) : g11 G a0 g 6 = .inl (tw_cy G 0, (800, .inl (fun _ => 0))) := (Eq.trans (upE_n _ _ (by omega)) (Eq.trans (upE_n _ _ (by omega)) (Eq.trans (upE_n _ _ (by omega)) (Eq.trans (upE_n _ _ (by omega)) (Eq.trans (upE_n _ _ (by omega)) (Eq.trans (upE_n _ _ (by omega)) (Eq.trans (upE_n _ _ (by omega)) (Eq.trans (upE_n _ _ (by omega)) (Eq.trans (upE_n _ _ (by omega)) (Eq.trans (upE_n _ _ (by omega)) (Eq.trans (upE_n _ _ (by omega)) (Eq.trans (upE_n _ _ (by omega)) (Eq.trans (upE_n _ _ (by omega)) (Eq.trans (upE_n _ _ (by omega)) (Eq.trans (upE_n _ _ (by omega)) (Eq.trans (upE_n _ _ (by omega)) (Eq.trans (upE_n _ _ (by omega)) (Eq.trans (upE_n _ _ (by omega)) (Eq.trans (upE_n _ _ (by omega)) (Eq.trans (upE_n _ _ (by omega)) (Eq.trans (upE_n _ _ (by omega)) (Eq.trans (upE_n _ _ (by omega)) (Eq.trans (upE_n _ _ (by omega)) (Eq.trans (upE_n _ _ (by omega)) (Eq.trans (upE_n _ _ (by omega)) (Eq.trans (upE_n _ _ (by omega)) (Eq.trans (upE_n _ _ (by omega)) (upE_s _ _ _))))))))))))))))))))))))))))
theorem g11_7 (G : tw_G) (a0 : Nat) (g : Nat → va_E) : g11 G a0 g 7 = .inl (tw_cy G 0, (640, .inl (fun _ => 0))) := (Eq.trans (upE_n _ _ (by omega)) (Eq.trans (upE_n _ _ (by omega)) (Eq.trans (upE_n _ _ (by omega)) (Eq.trans (upE_n _ _ (by omega)) (Eq.trans (upE_n _ _ (by omega)) (Eq.trans (upE_n _ _ (by omega)) (Eq.trans (upE_n _ _ (by omega)) (Eq.trans (upE_n _ _ (by omega)) (Eq.trans (upE_n _ _ (by omega)) (Eq.trans (upE_n _ _ (by omega)) (Eq.trans (upE_n _ _ (by omega)) (Eq.trans (upE_n _ _ (by omega)) (Eq.trans (upE_n _ _ (by omega)) (Eq.trans (upE_n _ _ (by omega)) (Eq.trans (upE_n _ _ (by omega)) (Eq.trans (upE_n _ _ (by omega)) (Eq.trans (upE_n _ _ (by omega)) (Eq.trans (upE_n _ _ (by omega)) (Eq.trans (upE_n _ _ (by omega)) (Eq.trans (upE_n _ _ (by omega)) (Eq.trans (upE_n _ _ (by omega)) (Eq.trans (upE_n _ _ (by omega)) (Eq.trans (upE_n _ _ (by omega)) (Eq.trans (upE_n _ _ (by omega)) (Eq.trans (upE_n _ _ (by omega)) (upE_s _ _ _))))))))))))))))))))))))))
theorem g11_8 (G : tw_G) (a0 : Nat) (g : Nat → va_E) : g11 G a0 g 8 = .inl (tw_cy G 0, (800, .inl (fun _ => 0))) := (Eq.trans (upE_n _ _ (by omega)) (Eq.trans (upE_n _ _ (by omega)) (Eq.trans (upE_n _ _ (by omega)) (Eq.trans (upE_n _ _ (by omega)) (Eq.trans (upE_n _ _ (by omega)) (Eq.trans (upE_n _ _ (by omega)) (Eq.trans (upE_n _ _ (by omega)) (Eq.trans (upE_n _ _ (by omega)) (Eq.trans (upE_n _ _ (by omega)) (Eq.trans (upE_n _ _ (by omega)) (Eq.trans (upE_n _ _ (by omega)) (Eq.trans (upE_n _ _ (by omega)) (Eq.trans (upE_n _ _ (by omega)) (Eq.trans (upE_n _ _ (by omega)) (Eq.trans (upE_n _ _ (by omega)) (Eq.trans (upE_n _ _ (by omega)) (Eq.trans (upE_n _ _ (by omega)) (Eq.trans (upE_n _ _ (by omega)) (Eq.trans (upE_n _ _ (by omega)) (Eq.trans (upE_n _ _ (by omega)) (Eq.trans (upE_n _ _ (by omega)) (Eq.trans (upE_n _ _ (by omega)) (Eq.trans (upE_n _ _ (by omega)) (upE_s _ _ _))))))))))))))))))))))))
theorem g11_9 (G : tw_G) (a0 : Nat) (g : Nat → va_E) : g11 G a0 g 9 = .inl (tw_cy G 0, (8, .inl (fun _ => 0))) := (Eq.trans (upE_n _ _ (by omega)) (Eq.trans (upE_n _ _ (by omega)) (Eq.trans (upE_n _ _ (by omega)) (Eq.trans (upE_n _ _ (by omega)) (Eq.trans (upE_n _ _ (by omega)) (Eq.trans (upE_n _ _ (by omega)) (Eq.trans (upE_n _ _ (by omega)) (Eq.trans (upE_n _ _ (by omega)) (Eq.trans (upE_n _ _ (by omega)) (Eq.trans (upE_n _ _ (by omega)) (Eq.trans (upE_n _ _ (by omega)) (Eq.trans (upE_n _ _ (by omega)) (Eq.trans (upE_n _ _ (by omega)) (Eq.trans (upE_n _ _ (by omega)) (Eq.trans (upE_n _ _ (by omega)) (Eq.trans (upE_n _ _ (by omega)) (Eq.trans (upE_n _ _ (by omega)) (Eq.trans (upE_n _ _ (by omega)) (Eq.trans (upE_n _ _ (by omega)) (Eq.trans (upE_n _ _ (by omega)) (Eq.trans (upE_n _ _ (by omega)) (upE_s _ _ _))))))))))))))))))))))
theorem g11_10 (G : tw_G) (a0 : Nat) (g : Nat → va_E) : g11 G a0 g 10 = .inl (tw_cy G 0, (8, .inl (fun _ => 0))) := (Eq.trans (upE_n _ _ (by omega)) (Eq.trans (upE_n _ _ (by omega)) (Eq.trans (upE_n _ _ (by omega)) (Eq.trans (upE_n _ _ (by omega)) (Eq.trans (upE_n _ _ (by omega)) (Eq.trans (upE_n _ _ (by omega)) (Eq.trans (upE_n _ _ (by omega)) (Eq.trans (upE_n _ _ (by omega)) (Eq.trans (upE_n _ _ (by omega)) (Eq.trans (upE_n _ _ (by omega)) (Eq.trans (upE_n _ _ (by omega)) (Eq.trans (upE_n _ _ (by omega)) (Eq.trans (upE_n _ _ (by omega)) (Eq.trans (upE_n _ _ (by omega)) (Eq.trans (upE_n _ _ (by omega)) (Eq.trans (upE_n _ _ (by omega)) (Eq.trans (upE_n _ _ (by omega)) (Eq.trans (upE_n _ _ (by omega)) (Eq.trans (upE_n _ _ (by omega)) (upE_s _ _ _))))))))))))))))))))
theorem g11_11 (G : tw_G) (a0 : Nat) (g : Nat → va_E) : g11 G a0 g 11 = .inl (tw_cy G 0, (4800, .inl (fun _ => 0))) := (Eq.trans (upE_n _ _ (by omega)) (Eq.trans (upE_n _ _ (by omega)) (Eq.trans (upE_n _ _ (by omega)) (Eq.trans (upE_n _ _ (by omega)) (Eq.trans (upE_n _ _ (by omega)) (Eq.trans (upE_n _ _ (by omega)) (Eq.trans (upE_n _ _ (by omega)) (Eq.trans (upE_n _ _ (by omega)) (Eq.trans (upE_n _ _ (by omega)) (Eq.trans (upE_n _ _ (by omega)) (Eq.trans (upE_n _ _ (by omega)) (Eq.trans (upE_n _ _ (by omega)) (Eq.trans (upE_n _ _ (by omega)) (Eq.trans (upE_n _ _ (by omega)) (Eq.trans (upE_n _ _ (by omega)) (Eq.trans (upE_n _ _ (by omega)) (Eq.trans (upE_n _ _ (by omega)) (upE_s _ _ _))))))))))))))))))
theorem g11_12 (G : tw_G) (a0 : Nat) (g : Nat → va_E) : g11 G a0 g 12 = .inl (tw_cy G 0, (40, .inl (fun _ => 0))) := (Eq.trans (upE_n _ _ (by omega)) (Eq.trans (upE_n _ _ (by omega)) (Eq.trans (upE_n _ _ (by omega)) (Eq.trans (upE_n _ _ (by omega)) (Eq.trans (upE_n _ _ (by omega)) (Eq.trans (upE_n _ _ (by omega)) (Eq.trans (upE_n _ _ (by omega)) (Eq.trans (upE_n _ _ (by omega)) (Eq.trans (upE_n _ _ (by omega)) (Eq.trans (upE_n _ _ (by omega)) (Eq.trans (upE_n _ _ (by omega)) (Eq.trans (upE_n _ _ (by omega)) (Eq.trans (upE_n _ _ (by omega)) (Eq.trans (upE_n _ _ (by omega)) (Eq.trans (upE_n _ _ (by omega)) (upE_s _ _ _))))))))))))))))
theorem g11_13 (G : tw_G) (a0 : Nat) (g : Nat → va_E) : g11 G a0 g 13 = .inl (tw_cy G 0, (3, .inl (fun _ => 0))) := (Eq.trans (upE_n _ _ (by omega)) (Eq.trans (upE_n _ _ (by omega)) (Eq.trans (upE_n _ _ (by omega)) (Eq.trans (upE_n _ _ (by omega)) (Eq.trans (upE_n _ _ (by omega)) (Eq.trans (upE_n _ _ (by omega)) (Eq.trans (upE_n _ _ (by omega)) (Eq.trans (upE_n _ _ (by omega)) (Eq.trans (upE_n _ _ (by omega)) (Eq.trans (upE_n _ _ (by omega)) (Eq.trans (upE_n _ _ (by omega)) (Eq.trans (upE_n _ _ (by omega)) (Eq.trans (upE_n _ _ (by omega)) (upE_s _ _ _))))))))))))))
theorem g11_14 (G : tw_G) (a0 : Nat) (g : Nat → va_E) : g11 G a0 g 14 = .inl (tw_cy G 0, (3, .inl (fun _ => 0))) := (Eq.trans (upE_n _ _ (by omega)) (Eq.trans (upE_n _ _ (by omega)) (Eq.trans (upE_n _ _ (by omega)) (Eq.trans (upE_n _ _ (by omega)) (Eq.trans (upE_n _ _ (by omega)) (Eq.trans (upE_n _ _ (by omega)) (Eq.trans (upE_n _ _ (by omega)) (Eq.trans (upE_n _ _ (by omega)) (Eq.trans (upE_n _ _ (by omega)) (Eq.trans (upE_n _ _ (by omega)) (Eq.trans (upE_n _ _ (by omega)) (upE_s _ _ _))))))))))))
theorem g11_15 (G : tw_G) (a0 : Nat) (g : Nat → va_E) : g11 G a0 g 15 = .inl (tw_cy G 0, (3, .inl (fun _ => 0))) := (Eq.trans (upE_n _ _ (by omega)) (Eq.trans (upE_n _ _ (by omega)) (Eq.trans (upE_n _ _ (by omega)) (Eq.trans (upE_n _ _ (by omega)) (Eq.trans (upE_n _ _ (by omega)) (Eq.trans (upE_n _ _ (by omega)) (Eq.trans (upE_n _ _ (by omega)) (Eq.trans (upE_n _ _ (by omega)) (Eq.trans (upE_n _ _ (by omega)) (upE_s _ _ _))))))))))
theorem g11_16 (G : tw_G) (a0 : Nat) (g : Nat → va_E) : g11 G a0 g 16 = .inl (tw_cy G 0, (1800, .inl (fun _ => 0))) := (Eq.trans (upE_n _ _ (by omega)) (Eq.trans (upE_n _ _ (by omega)) (Eq.trans (upE_n _ _ (by omega)) (Eq.trans (upE_n _ _ (by omega)) (Eq.trans (upE_n _ _ (by omega)) (Eq.trans (upE_n _ _ (by omega)) (Eq.trans (upE_n _ _ (by omega)) (upE_s _ _ _))))))))
theorem g11_17 (G : tw_G) (a0 : Nat) (g : Nat → va_E) : g11 G a0 g 17 = .inl (tw_cy G 0, (3, .inl (fun _ => 0))) := (Eq.trans (upE_n _ _ (by omega)) (Eq.trans (upE_n _ _ (by omega)) (Eq.trans (upE_n _ _ (by omega)) (Eq.trans (upE_n _ _ (by omega)) (Eq.trans (upE_n _ _ (by omega)) (upE_s _ _ _))))))
theorem g11_18 (G : tw_G) (a0 : Nat) (g : Nat → va_E) : g11 G a0 g 18 = .inl (tw_cy G 0, (300, .inl (fun _ => 0))) := (Eq.trans (upE_n _ _ (by omega)) (Eq.trans (upE_n _ _ (by omega)) (Eq.trans (upE_n _ _ (by omega)) (upE_s _ _ _))))
theorem g11_19 (G : tw_G) (a0 : Nat) (g : Nat → va_E) : g11 G a0 g 19 = .inl (tw_cy G 0, (300, .inl (fun _ => 0))) := (Eq.trans (upE_n _ _ (by omega)) (upE_s _ _ _))
section WM
variable (l : Launch) (D : va_G) (cy : Nat → ClassId) (a0 t0 : Nat) (g : Nat → va_E)
theorem gM_D {A : Nat → Prop} (h : ∀ q, a0 ≤ q → A q) (f : Nat → va_E) : va_D A (va_pl (tw_LA (gM l D cy a0 t0)) f) := by
  have e : va_pl (tw_LA (gM l D cy a0 t0)) f = blk a0 (fun i => f (a0 + i)) 20 := by
    show ((List.range 20).map (fun i => a0 + i)).map (fun a => (a, f a)) = _
    rw [List.map_map]; rfl
  rw [e]; exact blk_D h
theorem gC_D {A : Nat → Prop} (h : ∀ q, a0 ≤ q → A q) (f : Nat → va_E) : va_D A (va_pl (tw_LA (gC l D cy a0 t0)) f) := by
  have e : va_pl (tw_LA (gC l D cy a0 t0)) f = blk a0 (fun i => f (a0 + i)) 114 := by
    show ((List.range 114).map (fun i => a0 + i)).map (fun a => (a, f a)) = _
    rw [List.map_map]; rfl
  rw [e]; exact blk_D h
theorem gM_LA : ∀ r, tw_P (gM l D cy a0 t0) r → tw_ad (gM l D cy a0 t0) r ∈ tw_LA (gM l D cy a0 t0) := fun r h => List.mem_map.mpr ⟨r - 114, List.mem_range.mpr (by have := h.1; have := h.2; omega), rfl⟩
theorem gC_LA : ∀ r, tw_P (gC l D cy a0 t0) r → tw_ad (gC l D cy a0 t0) r ∈ tw_LA (gC l D cy a0 t0) := fun r h => List.mem_map.mpr ⟨lw_ix r, List.mem_range.mpr (lw_ix_lt r h), rfl⟩
theorem gM_inj : ∀ r r', tw_P (gM l D cy a0 t0) r → tw_P (gM l D cy a0 t0) r' → tw_ad (gM l D cy a0 t0) r = tw_ad (gM l D cy a0 t0) r' → r = r' := fun r r' h h' e => by
  have e2 : a0 + (r - 114) = a0 + (r' - 114) := e
  have h1 := h.1
  have h2 := h'.1
  omega
theorem gC_inj : ∀ r r', tw_P (gC l D cy a0 t0) r → tw_P (gC l D cy a0 t0) r' → tw_ad (gC l D cy a0 t0) r = tw_ad (gC l D cy a0 t0) r' → r = r' := fun r r' h h' e => by
  have e2 : a0 + lw_ix r = a0 + lw_ix r' := e
  exact lw_ix_inj r h r' h' (by omega)
theorem en_114 : tw_en (gM l D cy a0 t0) S0 114 (g11 (gM l D cy a0 t0) a0 g 0) := by
  unfold tw_en
  rw [sh_114, g11_0]
  rfl
theorem en_115 : tw_en (gM l D cy a0 t0) S0 115 (g11 (gM l D cy a0 t0) a0 g 1) := by
  have h1 : tw_sh 115 = none := by decide +kernel
  have h2 : tw_ar 115 = some (1, 16) := by decide +kernel
  unfold tw_en
  rw [h1, h2, g11_1]
  rfl
theorem en_116 : tw_en (gM l D cy a0 t0) S0 116 (g11 (gM l D cy a0 t0) a0 g 2) := by
  have h1 : tw_sh 116 = none := by decide +kernel
  have h2 : tw_ar 116 = some (0, 128) := by decide +kernel
  unfold tw_en
  rw [h1, h2, g11_2]
  rfl
theorem en_117 : tw_en (gM l D cy a0 t0) S0 117 (g11 (gM l D cy a0 t0) a0 g 3) := by
  have h1 : tw_sh 117 = none := by decide +kernel
  have h2 : tw_ar 117 = some (0, 16) := by decide +kernel
  unfold tw_en
  rw [h1, h2, g11_3]
  rfl
theorem en_118 : tw_en (gM l D cy a0 t0) S0 118 (g11 (gM l D cy a0 t0) a0 g 4) := by
  have h1 : tw_sh 118 = none := by decide +kernel
  have h2 : tw_ar 118 = some (0, 640) := by decide +kernel
  unfold tw_en
  rw [h1, h2, g11_4]
  rfl
theorem en_119 : tw_en (gM l D cy a0 t0) S0 119 (g11 (gM l D cy a0 t0) a0 g 5) := by
  have h1 : tw_sh 119 = none := by decide +kernel
  have h2 : tw_ar 119 = some (0, 800) := by decide +kernel
  unfold tw_en
  rw [h1, h2, g11_5]
  rfl
theorem en_120 : tw_en (gM l D cy a0 t0) S0 120 (g11 (gM l D cy a0 t0) a0 g 6) := by
  have h1 : tw_sh 120 = none := by decide +kernel
  have h2 : tw_ar 120 = some (0, 800) := by decide +kernel
  unfold tw_en
  rw [h1, h2, g11_6]
  rfl
theorem en_121 : tw_en (gM l D cy a0 t0) S0 121 (g11 (gM l D cy a0 t0) a0 g 7) := by
  have h1 : tw_sh 121 = none := by decide +kernel
  have h2 : tw_ar 121 = some (0, 640) := by decide +kernel
  unfold tw_en
  rw [h1, h2, g11_7]
  rfl
theorem en_122 : tw_en (gM l D cy a0 t0) S0 122 (g11 (gM l D cy a0 t0) a0 g 8) := by
  have h1 : tw_sh 122 = none := by decide +kernel
  have h2 : tw_ar 122 = some (0, 800) := by decide +kernel
  unfold tw_en
  rw [h1, h2, g11_8]
  rfl
theorem en_123 : tw_en (gM l D cy a0 t0) S0 123 (g11 (gM l D cy a0 t0) a0 g 9) := by
  have h1 : tw_sh 123 = none := by decide +kernel
  have h2 : tw_ar 123 = some (0, 8) := by decide +kernel
  unfold tw_en
  rw [h1, h2, g11_9]
  rfl
theorem en_124 : tw_en (gM l D cy a0 t0) S0 124 (g11 (gM l D cy a0 t0) a0 g 10) := by
  have h1 : tw_sh 124 = none := by decide +kernel
  have h2 : tw_ar 124 = some (0, 8) := by decide +kernel
  unfold tw_en
  rw [h1, h2, g11_10]
  rfl
theorem en_125 : tw_en (gM l D cy a0 t0) S0 125 (g11 (gM l D cy a0 t0) a0 g 11) := by
  have h1 : tw_sh 125 = none := by decide +kernel
  have h2 : tw_ar 125 = some (0, 4800) := by decide +kernel
  unfold tw_en
  rw [h1, h2, g11_11]
  rfl
theorem en_126 : tw_en (gM l D cy a0 t0) S0 126 (g11 (gM l D cy a0 t0) a0 g 12) := by
  have h1 : tw_sh 126 = none := by decide +kernel
  have h2 : tw_ar 126 = some (0, 40) := by decide +kernel
  unfold tw_en
  rw [h1, h2, g11_12]
  rfl
theorem en_127 : tw_en (gM l D cy a0 t0) S0 127 (g11 (gM l D cy a0 t0) a0 g 13) := by
  have h1 : tw_sh 127 = none := by decide +kernel
  have h2 : tw_ar 127 = some (0, 3) := by decide +kernel
  unfold tw_en
  rw [h1, h2, g11_13]
  rfl
theorem en_128 : tw_en (gM l D cy a0 t0) S0 128 (g11 (gM l D cy a0 t0) a0 g 14) := by
  have h1 : tw_sh 128 = none := by decide +kernel
  have h2 : tw_ar 128 = some (0, 3) := by decide +kernel
  unfold tw_en
  rw [h1, h2, g11_14]
  rfl
theorem en_129 : tw_en (gM l D cy a0 t0) S0 129 (g11 (gM l D cy a0 t0) a0 g 15) := by
  have h1 : tw_sh 129 = none := by decide +kernel
  have h2 : tw_ar 129 = some (0, 3) := by decide +kernel
  unfold tw_en
  rw [h1, h2, g11_15]
  rfl
theorem en_130 : tw_en (gM l D cy a0 t0) S0 130 (g11 (gM l D cy a0 t0) a0 g 16) := by
  have h1 : tw_sh 130 = none := by decide +kernel
  have h2 : tw_ar 130 = some (0, 1800) := by decide +kernel
  unfold tw_en
  rw [h1, h2, g11_16]
  rfl
theorem en_131 : tw_en (gM l D cy a0 t0) S0 131 (g11 (gM l D cy a0 t0) a0 g 17) := by
  have h1 : tw_sh 131 = none := by decide +kernel
  have h2 : tw_ar 131 = some (0, 3) := by decide +kernel
  unfold tw_en
  rw [h1, h2, g11_17]
  rfl
theorem en_132 : tw_en (gM l D cy a0 t0) S0 132 (g11 (gM l D cy a0 t0) a0 g 18) := by
  have h1 : tw_sh 132 = none := by decide +kernel
  have h2 : tw_ar 132 = some (0, 300) := by decide +kernel
  unfold tw_en
  rw [h1, h2, g11_18]
  rfl
theorem en_133 : tw_en (gM l D cy a0 t0) S0 133 (g11 (gM l D cy a0 t0) a0 g 19) := by
  have h1 : tw_sh 133 = none := by decide +kernel
  have h2 : tw_ar 133 = some (0, 300) := by decide +kernel
  unfold tw_en
  rw [h1, h2, g11_19]
  rfl
theorem en_allM : ∀ i, i < 20 → tw_en (gM l D cy a0 t0) S0 (114 + i) (g11 (gM l D cy a0 t0) a0 g i)
  | 0, _ => en_114 l D cy a0 t0 g
  | 1, _ => en_115 l D cy a0 t0 g
  | 2, _ => en_116 l D cy a0 t0 g
  | 3, _ => en_117 l D cy a0 t0 g
  | 4, _ => en_118 l D cy a0 t0 g
  | 5, _ => en_119 l D cy a0 t0 g
  | 6, _ => en_120 l D cy a0 t0 g
  | 7, _ => en_121 l D cy a0 t0 g
  | 8, _ => en_122 l D cy a0 t0 g
  | 9, _ => en_123 l D cy a0 t0 g
  | 10, _ => en_124 l D cy a0 t0 g
  | 11, _ => en_125 l D cy a0 t0 g
  | 12, _ => en_126 l D cy a0 t0 g
  | 13, _ => en_127 l D cy a0 t0 g
  | 14, _ => en_128 l D cy a0 t0 g
  | 15, _ => en_129 l D cy a0 t0 g
  | 16, _ => en_130 l D cy a0 t0 g
  | 17, _ => en_131 l D cy a0 t0 g
  | 18, _ => en_132 l D cy a0 t0 g
  | 19, _ => en_133 l D cy a0 t0 g
  | i + 20, h => absurd h (by omega)
set_option maxRecDepth 20000 in
theorem W_M {H : Heap} (h : va_P D vwCl (blk a0 (g11 (gM l D cy a0 t0) a0 g) 20) H) : tw_W (gM l D cy a0 t0) S0 H := by
  refine ⟨fun r _ _ => ⟨Nat.zero_le _, fun x hx => by cases hx⟩, fun a => g11 (gM l D cy a0 t0) a0 g (a - a0), ?_, fun r hr => ?_⟩
  · rw [gM_pl]; exact h
  · have hr2 : 114 ≤ r ∧ r < 134 := hr
    obtain ⟨i, rfl⟩ : ∃ i, r = 114 + i := ⟨r - 114, by omega⟩
    have hi : i < 20 := by omega
    show tw_en _ S0 (114 + i) (g11 (gM l D cy a0 t0) a0 g (a0 + (114 + i - 114) - a0))
    rw [show a0 + (114 + i - 114) - a0 = i by omega]
    exact en_allM l D cy a0 t0 g i hi
end WM
/-- the model's constructor -/
def mm_B (G : tw_G) (a0 : Nat) (g : Nat → va_E) (U : State) : Prop := tk_B G a0 1 g U ∧ tw_Z G (fun q => a0 ≤ q) U U.heap
def mm_Q (G : tw_G) (a0 : Nat) : Array Value → State → Outcome → State → Prop := fun _ st oc t => (oc = .returned none ∧ ∃ S', MI S' K0 [] [] [] (fun _ => 0) [] 0 0 0 0 0 ∧ tw_W G S' t.heap) ∧ va_F (fun q => a0 ≤ q) st t
theorem n_X11 (l : Launch) (D : va_G) (cy : Nat → ClassId) (a0 t0 : Nat) (g : Nat → va_E) (hg : g 0 = .inr (9, [.null, .null, .null, .null, .int 0, .null, .int 0, .null, .int 0, .int 0, .int 0, .int 0, .int 0, .int 0, .int 0, .int 0, .int 0, .int 0, .null, .int 0, .int 0, .int 0, .int 0, .null, .int 0, .null, .int 0, .int 0, .int 0, .null, .null, .null, .int 0, .int 0, .int 0, .null, .null, .null, .null, .null, .null, .null, .int 0, .int 0, .int 0, .int 0])) : Met l yX11_init (.code yX11_init cX11_init 3 none :: lw_g) ({ frames := 2, cells := 19, slots := 11108, locals := 48 }) (va_Pc [.ref (a0 + 0)] (mm_B (gM l D cy a0 t0) a0 g)) (mm_Q (gM l D cy a0 t0) a0) 19 11108 (fun q => a0 ≤ q) := by
  refine Met.ofW (cc := cX11_init) (maxL := 3) (ret := none) (by decide) rfl ?_
  intro p e s m args below meth c s₁ B hml hv
  obtain ⟨rfl, ⟨hsz, hP, hK, hV⟩, hZ⟩ := hv
  have hts := atoms_spec (ws := Cond.code yX11_init cX11_init 3 none :: lw_g) B.pre
  have hown : s.vm.findClass RX11 = some m.cls := findClass_of_methodNamed B.named
  have hl := lv_entry [.ref (a0 + 0)] (n := 3) (Nat.le_of_ble_eq_true rfl)
  rw [show lv_args 0 [.ref (a0 + 0)] = [(0, .ref (a0 + 0))] from rfl] at hl
  rw [lg_entry_eq]
  refine (show ∀ X : tw_X, (tx_s X).heap.size = a0 + 1 → tk_C (gM l D cy a0 t0) X cX11_init RX11 a0 → tw_Z (gM l D cy a0 t0) (tx_A X) (tx_s X) (tx_s X).heap → tk_N X 3 2 48 19 11108 → ((tx_t X).sig.returnType = none ∧ tx_A X = (fun q => a0 ≤ q) ∧ tx_Q X = MQ (tx_b X) (mm_Q (gM l D cy a0 t0) a0) (tx_a X) (tx_s X) 19 11108 (fun q => a0 ≤ q)) → TK (gM l D cy a0 t0) X a0 1 g 0 0 [(0, .ref (a0 + 0))] 0 [] from ?_) (p, e, _, s, m, #[.ref (a0 + 0)], below, meth, c, 3, (fun q => a0 ≤ q), 19, 11108, _) hsz ⟨B.exec, B.bytes, hml, hown, fun w hw => hts w (List.mem_cons_of_mem _ hw), hK, fun q h => h, B.notSynchronized, (name_of_methodNamed B.named B.method).1, hV⟩ hZ ⟨⟨rfl, rfl, rfl⟩, rfl, rfl⟩ ⟨B.returns, rfl, rfl⟩ s.heap [] _ hsz hP va_S.rf hl
  clear hl hown hts hZ hsz hP hK hV hml B
  intro X hsz C hZ NN Q
  refine tk_aload_n C dX11_init_0 0 rfl ?_
  refine tk_objInit C NN.1 wd_110 dX11_init_1 (by decide) (by decide) ?_
  refine tk_aload_n C dX11_init_4 0 rfl ?_
  refine tk_bipush C dX11_init_5 (v := nI 16) (by decide) ?_
  refine tk_newa (atype := .boolean) (ty := .boolean) (cy := 1) (n' := 16) (e := (16, .inl (fun _ => 0))) C wd_48 rfl (cy_boolean C) rfl (nI_nl (by omega)) (tw_cl (by omega)) (by show 16 * 1 ≤ _; omega) (by rw [NN.2.1]; omega) (by rw [NN.2.2]; omega) dX11_init_7 ?_
  refine tk_put (p := 0) (k := 0) (fs := [.null, .null, .null, .null, .int 0, .null, .int 0, .null, .int 0, .int 0, .int 0, .int 0, .int 0, .int 0, .int 0, .int 0, .int 0, .int 0, .null, .int 0, .int 0, .int 0, .int 0, .null, .int 0, .null, .int 0, .int 0, .int 0, .null, .null, .null, .int 0, .int 0, .int 0, .null, .null, .null, .null, .null, .null, .null, .int 0, .int 0, .int 0, .int 0]) C fc_X11 (by omega) (Eq.trans (upE_n _ _ (by omega)) hg) (by decide) (Nat.le_of_ble_eq_true rfl) rfl wd_111 rfl rfl dX11_init_9 ?_
  refine tk_aload_n C dX11_init_12 0 rfl ?_
  refine tk_sipush C dX11_init_13 (v := nI 128) (by decide) ?_
  refine tk_newa (atype := .int) (ty := .int) (cy := 0) (n' := 128) (e := (128, .inl (fun _ => 0))) C wd_43 rfl (cy_int C) rfl (nI_nl (by omega)) (tw_cl (by omega)) (by show 128 * 4 ≤ _; omega) (by rw [NN.2.1]; omega) (by rw [NN.2.2]; omega) dX11_init_16 ?_
  refine tk_put (p := 0) (k := 1) (fs := [.ref (a0 + 1), .null, .null, .null, .int 0, .null, .int 0, .null, .int 0, .int 0, .int 0, .int 0, .int 0, .int 0, .int 0, .int 0, .int 0, .int 0, .null, .int 0, .int 0, .int 0, .int 0, .null, .int 0, .null, .int 0, .int 0, .int 0, .null, .null, .null, .int 0, .int 0, .int 0, .null, .null, .null, .null, .null, .null, .null, .int 0, .int 0, .int 0, .int 0]) C fc_X11 (by omega) (Eq.trans (upE_n _ _ (by omega)) (upE_s _ _ _)) (by decide) (Nat.le_of_ble_eq_true rfl) rfl wd_112 rfl rfl dX11_init_18 ?_
  refine tk_aload_n C dX11_init_21 0 rfl ?_
  refine tk_bipush C dX11_init_22 (v := nI 16) (by decide) ?_
  refine tk_newa (atype := .int) (ty := .int) (cy := 0) (n' := 16) (e := (16, .inl (fun _ => 0))) C wd_43 rfl (cy_int C) rfl (nI_nl (by omega)) (tw_cl (by omega)) (by show 16 * 4 ≤ _; omega) (by rw [NN.2.1]; omega) (by rw [NN.2.2]; omega) dX11_init_24 ?_
  refine tk_put (p := 0) (k := 2) (fs := [.ref (a0 + 1), .ref (a0 + 2), .null, .null, .int 0, .null, .int 0, .null, .int 0, .int 0, .int 0, .int 0, .int 0, .int 0, .int 0, .int 0, .int 0, .int 0, .null, .int 0, .int 0, .int 0, .int 0, .null, .int 0, .null, .int 0, .int 0, .int 0, .null, .null, .null, .int 0, .int 0, .int 0, .null, .null, .null, .null, .null, .null, .null, .int 0, .int 0, .int 0, .int 0]) C fc_X11 (by omega) (Eq.trans (upE_n _ _ (by omega)) (upE_s _ _ _)) (by decide) (Nat.le_of_ble_eq_true rfl) rfl wd_113 rfl rfl dX11_init_26 ?_
  refine tk_aload_n C dX11_init_29 0 rfl ?_
  refine tk_sipush C dX11_init_30 (v := nI 640) (by decide) ?_
  refine tk_newa (atype := .int) (ty := .int) (cy := 0) (n' := 640) (e := (640, .inl (fun _ => 0))) C wd_43 rfl (cy_int C) rfl (nI_nl (by omega)) (tw_cl (by omega)) (by show 640 * 4 ≤ _; omega) (by rw [NN.2.1]; omega) (by rw [NN.2.2]; omega) dX11_init_33 ?_
  refine tk_put (p := 0) (k := 3) (fs := [.ref (a0 + 1), .ref (a0 + 2), .ref (a0 + 3), .null, .int 0, .null, .int 0, .null, .int 0, .int 0, .int 0, .int 0, .int 0, .int 0, .int 0, .int 0, .int 0, .int 0, .null, .int 0, .int 0, .int 0, .int 0, .null, .int 0, .null, .int 0, .int 0, .int 0, .null, .null, .null, .int 0, .int 0, .int 0, .null, .null, .null, .null, .null, .null, .null, .int 0, .int 0, .int 0, .int 0]) C fc_X11 (by omega) (Eq.trans (upE_n _ _ (by omega)) (upE_s _ _ _)) (by decide) (Nat.le_of_ble_eq_true rfl) rfl wd_114 rfl rfl dX11_init_35 ?_
  refine tk_aload_n C dX11_init_38 0 rfl ?_
  refine tk_sipush C dX11_init_39 (v := nI 800) (by decide) ?_
  refine tk_newa (atype := .int) (ty := .int) (cy := 0) (n' := 800) (e := (800, .inl (fun _ => 0))) C wd_43 rfl (cy_int C) rfl (nI_nl (by omega)) (tw_cl (by omega)) (by show 800 * 4 ≤ _; omega) (by rw [NN.2.1]; omega) (by rw [NN.2.2]; omega) dX11_init_42 ?_
  refine tk_put (p := 0) (k := 5) (fs := [.ref (a0 + 1), .ref (a0 + 2), .ref (a0 + 3), .ref (a0 + 4), .int 0, .null, .int 0, .null, .int 0, .int 0, .int 0, .int 0, .int 0, .int 0, .int 0, .int 0, .int 0, .int 0, .null, .int 0, .int 0, .int 0, .int 0, .null, .int 0, .null, .int 0, .int 0, .int 0, .null, .null, .null, .int 0, .int 0, .int 0, .null, .null, .null, .null, .null, .null, .null, .int 0, .int 0, .int 0, .int 0]) C fc_X11 (by omega) (Eq.trans (upE_n _ _ (by omega)) (upE_s _ _ _)) (by decide) (Nat.le_of_ble_eq_true rfl) rfl wd_115 rfl rfl dX11_init_44 ?_
  refine tk_aload_n C dX11_init_47 0 rfl ?_
  refine tk_sipush C dX11_init_48 (v := nI 800) (by decide) ?_
  refine tk_newa (atype := .int) (ty := .int) (cy := 0) (n' := 800) (e := (800, .inl (fun _ => 0))) C wd_43 rfl (cy_int C) rfl (nI_nl (by omega)) (tw_cl (by omega)) (by show 800 * 4 ≤ _; omega) (by rw [NN.2.1]; omega) (by rw [NN.2.2]; omega) dX11_init_51 ?_
  refine tk_put (p := 0) (k := 7) (fs := [.ref (a0 + 1), .ref (a0 + 2), .ref (a0 + 3), .ref (a0 + 4), .int 0, .ref (a0 + 5), .int 0, .null, .int 0, .int 0, .int 0, .int 0, .int 0, .int 0, .int 0, .int 0, .int 0, .int 0, .null, .int 0, .int 0, .int 0, .int 0, .null, .int 0, .null, .int 0, .int 0, .int 0, .null, .null, .null, .int 0, .int 0, .int 0, .null, .null, .null, .null, .null, .null, .null, .int 0, .int 0, .int 0, .int 0]) C fc_X11 (by omega) (Eq.trans (upE_n _ _ (by omega)) (upE_s _ _ _)) (by decide) (Nat.le_of_ble_eq_true rfl) rfl wd_116 rfl rfl dX11_init_53 ?_
  refine tk_aload_n C dX11_init_56 0 rfl ?_
  refine tk_sipush C dX11_init_57 (v := nI 640) (by decide) ?_
  refine tk_newa (atype := .int) (ty := .int) (cy := 0) (n' := 640) (e := (640, .inl (fun _ => 0))) C wd_43 rfl (cy_int C) rfl (nI_nl (by omega)) (tw_cl (by omega)) (by show 640 * 4 ≤ _; omega) (by rw [NN.2.1]; omega) (by rw [NN.2.2]; omega) dX11_init_60 ?_
  refine tk_put (p := 0) (k := 18) (fs := [.ref (a0 + 1), .ref (a0 + 2), .ref (a0 + 3), .ref (a0 + 4), .int 0, .ref (a0 + 5), .int 0, .ref (a0 + 6), .int 0, .int 0, .int 0, .int 0, .int 0, .int 0, .int 0, .int 0, .int 0, .int 0, .null, .int 0, .int 0, .int 0, .int 0, .null, .int 0, .null, .int 0, .int 0, .int 0, .null, .null, .null, .int 0, .int 0, .int 0, .null, .null, .null, .null, .null, .null, .null, .int 0, .int 0, .int 0, .int 0]) C fc_X11 (by omega) (Eq.trans (upE_n _ _ (by omega)) (upE_s _ _ _)) (by decide) (Nat.le_of_ble_eq_true rfl) rfl wd_117 rfl rfl dX11_init_62 ?_
  refine tk_aload_n C dX11_init_65 0 rfl ?_
  refine tk_sipush C dX11_init_66 (v := nI 800) (by decide) ?_
  refine tk_newa (atype := .int) (ty := .int) (cy := 0) (n' := 800) (e := (800, .inl (fun _ => 0))) C wd_43 rfl (cy_int C) rfl (nI_nl (by omega)) (tw_cl (by omega)) (by show 800 * 4 ≤ _; omega) (by rw [NN.2.1]; omega) (by rw [NN.2.2]; omega) dX11_init_69 ?_
  refine tk_put (p := 0) (k := 23) (fs := [.ref (a0 + 1), .ref (a0 + 2), .ref (a0 + 3), .ref (a0 + 4), .int 0, .ref (a0 + 5), .int 0, .ref (a0 + 6), .int 0, .int 0, .int 0, .int 0, .int 0, .int 0, .int 0, .int 0, .int 0, .int 0, .ref (a0 + 7), .int 0, .int 0, .int 0, .int 0, .null, .int 0, .null, .int 0, .int 0, .int 0, .null, .null, .null, .int 0, .int 0, .int 0, .null, .null, .null, .null, .null, .null, .null, .int 0, .int 0, .int 0, .int 0]) C fc_X11 (by omega) (Eq.trans (upE_n _ _ (by omega)) (upE_s _ _ _)) (by decide) (Nat.le_of_ble_eq_true rfl) rfl wd_118 rfl rfl dX11_init_71 ?_
  refine tk_aload_n C dX11_init_74 0 rfl ?_
  refine tk_bipush C dX11_init_75 (v := nI 8) (by decide) ?_
  refine tk_newa (atype := .int) (ty := .int) (cy := 0) (n' := 8) (e := (8, .inl (fun _ => 0))) C wd_43 rfl (cy_int C) rfl (nI_nl (by omega)) (tw_cl (by omega)) (by show 8 * 4 ≤ _; omega) (by rw [NN.2.1]; omega) (by rw [NN.2.2]; omega) dX11_init_77 ?_
  refine tk_put (p := 0) (k := 25) (fs := [.ref (a0 + 1), .ref (a0 + 2), .ref (a0 + 3), .ref (a0 + 4), .int 0, .ref (a0 + 5), .int 0, .ref (a0 + 6), .int 0, .int 0, .int 0, .int 0, .int 0, .int 0, .int 0, .int 0, .int 0, .int 0, .ref (a0 + 7), .int 0, .int 0, .int 0, .int 0, .ref (a0 + 8), .int 0, .null, .int 0, .int 0, .int 0, .null, .null, .null, .int 0, .int 0, .int 0, .null, .null, .null, .null, .null, .null, .null, .int 0, .int 0, .int 0, .int 0]) C fc_X11 (by omega) (Eq.trans (upE_n _ _ (by omega)) (upE_s _ _ _)) (by decide) (Nat.le_of_ble_eq_true rfl) rfl wd_119 rfl rfl dX11_init_79 ?_
  refine tk_aload_n C dX11_init_82 0 rfl ?_
  refine tk_bipush C dX11_init_83 (v := nI 8) (by decide) ?_
  refine tk_newa (atype := .int) (ty := .int) (cy := 0) (n' := 8) (e := (8, .inl (fun _ => 0))) C wd_43 rfl (cy_int C) rfl (nI_nl (by omega)) (tw_cl (by omega)) (by show 8 * 4 ≤ _; omega) (by rw [NN.2.1]; omega) (by rw [NN.2.2]; omega) dX11_init_85 ?_
  refine tk_put (p := 0) (k := 29) (fs := [.ref (a0 + 1), .ref (a0 + 2), .ref (a0 + 3), .ref (a0 + 4), .int 0, .ref (a0 + 5), .int 0, .ref (a0 + 6), .int 0, .int 0, .int 0, .int 0, .int 0, .int 0, .int 0, .int 0, .int 0, .int 0, .ref (a0 + 7), .int 0, .int 0, .int 0, .int 0, .ref (a0 + 8), .int 0, .ref (a0 + 9), .int 0, .int 0, .int 0, .null, .null, .null, .int 0, .int 0, .int 0, .null, .null, .null, .null, .null, .null, .null, .int 0, .int 0, .int 0, .int 0]) C fc_X11 (by omega) (Eq.trans (upE_n _ _ (by omega)) (upE_s _ _ _)) (by decide) (Nat.le_of_ble_eq_true rfl) rfl wd_120 rfl rfl dX11_init_87 ?_
  refine tk_aload_n C dX11_init_90 0 rfl ?_
  refine tk_sipush C dX11_init_91 (v := nI 4800) (by decide) ?_
  refine tk_newa (atype := .int) (ty := .int) (cy := 0) (n' := 4800) (e := (4800, .inl (fun _ => 0))) C wd_43 rfl (cy_int C) rfl (nI_nl (by omega)) (tw_cl (by omega)) (by show 4800 * 4 ≤ _; omega) (by rw [NN.2.1]; omega) (by rw [NN.2.2]; omega) dX11_init_94 ?_
  refine tk_put (p := 0) (k := 30) (fs := [.ref (a0 + 1), .ref (a0 + 2), .ref (a0 + 3), .ref (a0 + 4), .int 0, .ref (a0 + 5), .int 0, .ref (a0 + 6), .int 0, .int 0, .int 0, .int 0, .int 0, .int 0, .int 0, .int 0, .int 0, .int 0, .ref (a0 + 7), .int 0, .int 0, .int 0, .int 0, .ref (a0 + 8), .int 0, .ref (a0 + 9), .int 0, .int 0, .int 0, .ref (a0 + 10), .null, .null, .int 0, .int 0, .int 0, .null, .null, .null, .null, .null, .null, .null, .int 0, .int 0, .int 0, .int 0]) C fc_X11 (by omega) (Eq.trans (upE_n _ _ (by omega)) (upE_s _ _ _)) (by decide) (Nat.le_of_ble_eq_true rfl) rfl wd_121 rfl rfl dX11_init_96 ?_
  refine tk_aload_n C dX11_init_99 0 rfl ?_
  refine tk_bipush C dX11_init_100 (v := nI 40) (by decide) ?_
  refine tk_newa (atype := .int) (ty := .int) (cy := 0) (n' := 40) (e := (40, .inl (fun _ => 0))) C wd_43 rfl (cy_int C) rfl (nI_nl (by omega)) (tw_cl (by omega)) (by show 40 * 4 ≤ _; omega) (by rw [NN.2.1]; omega) (by rw [NN.2.2]; omega) dX11_init_102 ?_
  refine tk_put (p := 0) (k := 31) (fs := [.ref (a0 + 1), .ref (a0 + 2), .ref (a0 + 3), .ref (a0 + 4), .int 0, .ref (a0 + 5), .int 0, .ref (a0 + 6), .int 0, .int 0, .int 0, .int 0, .int 0, .int 0, .int 0, .int 0, .int 0, .int 0, .ref (a0 + 7), .int 0, .int 0, .int 0, .int 0, .ref (a0 + 8), .int 0, .ref (a0 + 9), .int 0, .int 0, .int 0, .ref (a0 + 10), .ref (a0 + 11), .null, .int 0, .int 0, .int 0, .null, .null, .null, .null, .null, .null, .null, .int 0, .int 0, .int 0, .int 0]) C fc_X11 (by omega) (Eq.trans (upE_n _ _ (by omega)) (upE_s _ _ _)) (by decide) (Nat.le_of_ble_eq_true rfl) rfl wd_122 rfl rfl dX11_init_104 ?_
  refine tk_aload_n C dX11_init_107 0 rfl ?_
  refine tk_iconst C dX11_init_108 (v := nI 3) (by decide) ?_
  refine tk_newa (atype := .int) (ty := .int) (cy := 0) (n' := 3) (e := (3, .inl (fun _ => 0))) C wd_43 rfl (cy_int C) rfl (nI_nl (by omega)) (tw_cl (by omega)) (by show 3 * 4 ≤ _; omega) (by rw [NN.2.1]; omega) (by rw [NN.2.2]; omega) dX11_init_109 ?_
  refine tk_put (p := 0) (k := 35) (fs := [.ref (a0 + 1), .ref (a0 + 2), .ref (a0 + 3), .ref (a0 + 4), .int 0, .ref (a0 + 5), .int 0, .ref (a0 + 6), .int 0, .int 0, .int 0, .int 0, .int 0, .int 0, .int 0, .int 0, .int 0, .int 0, .ref (a0 + 7), .int 0, .int 0, .int 0, .int 0, .ref (a0 + 8), .int 0, .ref (a0 + 9), .int 0, .int 0, .int 0, .ref (a0 + 10), .ref (a0 + 11), .ref (a0 + 12), .int 0, .int 0, .int 0, .null, .null, .null, .null, .null, .null, .null, .int 0, .int 0, .int 0, .int 0]) C fc_X11 (by omega) (Eq.trans (upE_n _ _ (by omega)) (upE_s _ _ _)) (by decide) (Nat.le_of_ble_eq_true rfl) rfl wd_123 rfl rfl dX11_init_111 ?_
  refine tk_aload_n C dX11_init_114 0 rfl ?_
  refine tk_iconst C dX11_init_115 (v := nI 3) (by decide) ?_
  refine tk_newa (atype := .int) (ty := .int) (cy := 0) (n' := 3) (e := (3, .inl (fun _ => 0))) C wd_43 rfl (cy_int C) rfl (nI_nl (by omega)) (tw_cl (by omega)) (by show 3 * 4 ≤ _; omega) (by rw [NN.2.1]; omega) (by rw [NN.2.2]; omega) dX11_init_116 ?_
  refine tk_put (p := 0) (k := 36) (fs := [.ref (a0 + 1), .ref (a0 + 2), .ref (a0 + 3), .ref (a0 + 4), .int 0, .ref (a0 + 5), .int 0, .ref (a0 + 6), .int 0, .int 0, .int 0, .int 0, .int 0, .int 0, .int 0, .int 0, .int 0, .int 0, .ref (a0 + 7), .int 0, .int 0, .int 0, .int 0, .ref (a0 + 8), .int 0, .ref (a0 + 9), .int 0, .int 0, .int 0, .ref (a0 + 10), .ref (a0 + 11), .ref (a0 + 12), .int 0, .int 0, .int 0, .ref (a0 + 13), .null, .null, .null, .null, .null, .null, .int 0, .int 0, .int 0, .int 0]) C fc_X11 (by omega) (Eq.trans (upE_n _ _ (by omega)) (upE_s _ _ _)) (by decide) (Nat.le_of_ble_eq_true rfl) rfl wd_124 rfl rfl dX11_init_118 ?_
  refine tk_aload_n C dX11_init_121 0 rfl ?_
  refine tk_iconst C dX11_init_122 (v := nI 3) (by decide) ?_
  refine tk_newa (atype := .int) (ty := .int) (cy := 0) (n' := 3) (e := (3, .inl (fun _ => 0))) C wd_43 rfl (cy_int C) rfl (nI_nl (by omega)) (tw_cl (by omega)) (by show 3 * 4 ≤ _; omega) (by rw [NN.2.1]; omega) (by rw [NN.2.2]; omega) dX11_init_123 ?_
  refine tk_put (p := 0) (k := 37) (fs := [.ref (a0 + 1), .ref (a0 + 2), .ref (a0 + 3), .ref (a0 + 4), .int 0, .ref (a0 + 5), .int 0, .ref (a0 + 6), .int 0, .int 0, .int 0, .int 0, .int 0, .int 0, .int 0, .int 0, .int 0, .int 0, .ref (a0 + 7), .int 0, .int 0, .int 0, .int 0, .ref (a0 + 8), .int 0, .ref (a0 + 9), .int 0, .int 0, .int 0, .ref (a0 + 10), .ref (a0 + 11), .ref (a0 + 12), .int 0, .int 0, .int 0, .ref (a0 + 13), .ref (a0 + 14), .null, .null, .null, .null, .null, .int 0, .int 0, .int 0, .int 0]) C fc_X11 (by omega) (Eq.trans (upE_n _ _ (by omega)) (upE_s _ _ _)) (by decide) (Nat.le_of_ble_eq_true rfl) rfl wd_125 rfl rfl dX11_init_125 ?_
  refine tk_aload_n C dX11_init_128 0 rfl ?_
  refine tk_sipush C dX11_init_129 (v := nI 1800) (by decide) ?_
  refine tk_newa (atype := .int) (ty := .int) (cy := 0) (n' := 1800) (e := (1800, .inl (fun _ => 0))) C wd_43 rfl (cy_int C) rfl (nI_nl (by omega)) (tw_cl (by omega)) (by show 1800 * 4 ≤ _; omega) (by rw [NN.2.1]; omega) (by rw [NN.2.2]; omega) dX11_init_132 ?_
  refine tk_put (p := 0) (k := 38) (fs := [.ref (a0 + 1), .ref (a0 + 2), .ref (a0 + 3), .ref (a0 + 4), .int 0, .ref (a0 + 5), .int 0, .ref (a0 + 6), .int 0, .int 0, .int 0, .int 0, .int 0, .int 0, .int 0, .int 0, .int 0, .int 0, .ref (a0 + 7), .int 0, .int 0, .int 0, .int 0, .ref (a0 + 8), .int 0, .ref (a0 + 9), .int 0, .int 0, .int 0, .ref (a0 + 10), .ref (a0 + 11), .ref (a0 + 12), .int 0, .int 0, .int 0, .ref (a0 + 13), .ref (a0 + 14), .ref (a0 + 15), .null, .null, .null, .null, .int 0, .int 0, .int 0, .int 0]) C fc_X11 (by omega) (Eq.trans (upE_n _ _ (by omega)) (upE_s _ _ _)) (by decide) (Nat.le_of_ble_eq_true rfl) rfl wd_126 rfl rfl dX11_init_134 ?_
  refine tk_aload_n C dX11_init_137 0 rfl ?_
  refine tk_iconst C dX11_init_138 (v := nI 3) (by decide) ?_
  refine tk_newa (atype := .int) (ty := .int) (cy := 0) (n' := 3) (e := (3, .inl (fun _ => 0))) C wd_43 rfl (cy_int C) rfl (nI_nl (by omega)) (tw_cl (by omega)) (by show 3 * 4 ≤ _; omega) (by rw [NN.2.1]; omega) (by rw [NN.2.2]; omega) dX11_init_139 ?_
  refine tk_put (p := 0) (k := 39) (fs := [.ref (a0 + 1), .ref (a0 + 2), .ref (a0 + 3), .ref (a0 + 4), .int 0, .ref (a0 + 5), .int 0, .ref (a0 + 6), .int 0, .int 0, .int 0, .int 0, .int 0, .int 0, .int 0, .int 0, .int 0, .int 0, .ref (a0 + 7), .int 0, .int 0, .int 0, .int 0, .ref (a0 + 8), .int 0, .ref (a0 + 9), .int 0, .int 0, .int 0, .ref (a0 + 10), .ref (a0 + 11), .ref (a0 + 12), .int 0, .int 0, .int 0, .ref (a0 + 13), .ref (a0 + 14), .ref (a0 + 15), .ref (a0 + 16), .null, .null, .null, .int 0, .int 0, .int 0, .int 0]) C fc_X11 (by omega) (Eq.trans (upE_n _ _ (by omega)) (upE_s _ _ _)) (by decide) (Nat.le_of_ble_eq_true rfl) rfl wd_127 rfl rfl dX11_init_141 ?_
  refine tk_aload_n C dX11_init_144 0 rfl ?_
  refine tk_sipush C dX11_init_145 (v := nI 300) (by decide) ?_
  refine tk_newa (atype := .int) (ty := .int) (cy := 0) (n' := 300) (e := (300, .inl (fun _ => 0))) C wd_43 rfl (cy_int C) rfl (nI_nl (by omega)) (tw_cl (by omega)) (by show 300 * 4 ≤ _; omega) (by rw [NN.2.1]; omega) (by rw [NN.2.2]; omega) dX11_init_148 ?_
  refine tk_put (p := 0) (k := 40) (fs := [.ref (a0 + 1), .ref (a0 + 2), .ref (a0 + 3), .ref (a0 + 4), .int 0, .ref (a0 + 5), .int 0, .ref (a0 + 6), .int 0, .int 0, .int 0, .int 0, .int 0, .int 0, .int 0, .int 0, .int 0, .int 0, .ref (a0 + 7), .int 0, .int 0, .int 0, .int 0, .ref (a0 + 8), .int 0, .ref (a0 + 9), .int 0, .int 0, .int 0, .ref (a0 + 10), .ref (a0 + 11), .ref (a0 + 12), .int 0, .int 0, .int 0, .ref (a0 + 13), .ref (a0 + 14), .ref (a0 + 15), .ref (a0 + 16), .ref (a0 + 17), .null, .null, .int 0, .int 0, .int 0, .int 0]) C fc_X11 (by omega) (Eq.trans (upE_n _ _ (by omega)) (upE_s _ _ _)) (by decide) (Nat.le_of_ble_eq_true rfl) rfl wd_128 rfl rfl dX11_init_150 ?_
  refine tk_aload_n C dX11_init_153 0 rfl ?_
  refine tk_sipush C dX11_init_154 (v := nI 300) (by decide) ?_
  refine tk_newa (atype := .int) (ty := .int) (cy := 0) (n' := 300) (e := (300, .inl (fun _ => 0))) C wd_43 rfl (cy_int C) rfl (nI_nl (by omega)) (tw_cl (by omega)) (by show 300 * 4 ≤ _; omega) (by rw [NN.2.1]; omega) (by rw [NN.2.2]; omega) dX11_init_157 ?_
  refine tk_put (p := 0) (k := 41) (fs := [.ref (a0 + 1), .ref (a0 + 2), .ref (a0 + 3), .ref (a0 + 4), .int 0, .ref (a0 + 5), .int 0, .ref (a0 + 6), .int 0, .int 0, .int 0, .int 0, .int 0, .int 0, .int 0, .int 0, .int 0, .int 0, .ref (a0 + 7), .int 0, .int 0, .int 0, .int 0, .ref (a0 + 8), .int 0, .ref (a0 + 9), .int 0, .int 0, .int 0, .ref (a0 + 10), .ref (a0 + 11), .ref (a0 + 12), .int 0, .int 0, .int 0, .ref (a0 + 13), .ref (a0 + 14), .ref (a0 + 15), .ref (a0 + 16), .ref (a0 + 17), .ref (a0 + 18), .null, .int 0, .int 0, .int 0, .int 0]) C fc_X11 (by omega) (Eq.trans (upE_n _ _ (by omega)) (upE_s _ _ _)) (by decide) (Nat.le_of_ble_eq_true rfl) rfl wd_129 rfl rfl dX11_init_159 ?_
  intro H locs ls hs hP hS hl
  have hW := W_M l D cy a0 t0 g hP
  let X2 : tw_X := (tx_p X, tx_e X, tx_R X, tx_s X, tx_m X, tx_a X, tx_b X, tx_t X, tx_c X, tx_n X, tx_A X, 19, 11108, tx_Q X)
  have hA : ∀ q, a0 ≤ q → tx_A X q := C.2.2.2.2.2.2.1
  have C2 : tw_C (gM l D cy a0 t0) X2 cX11_init RX11 := ⟨C.1, C.2.1, C.2.2.1, C.2.2.2.1, C.2.2.2.2.1, ⟨C.2.2.2.2.2.1, fun f => gM_D l D cy a0 t0 hA f, gM_LA l D cy a0 t0, gM_inj l D cy a0 t0⟩, hZ, fun q hq => hA q (by have : a0 + 1 ≤ q := hsz ▸ hq; omega), C.2.2.2.2.2.2.2.1⟩
  have N2 : tw_N X2 3 2 48 := ⟨NN.1.1, NN.1.2.1, NN.1.2.2, by show 19 ≤ (tx_R X).cells; rw [NN.2.1]; exact Nat.le_refl _, by show 11108 ≤ (tx_R X).slots; rw [NN.2.2]; exact Nat.le_refl _⟩
  have hM : tw_mG (gM l D cy a0 t0) := fun r h1 h2 => ⟨h1, h2⟩
  have h9 : TW (gM l D cy a0 t0) X2 S0 [(0, .ref (a0 + 0))] 162 [] := by
    refine tw_aload_n C2 dX11_init_162 0 rfl ?_
    refine tw_iconst C2 dX11_init_163 (v := nI 0) (by decide) ?_
    refine tw_iconst C2 dX11_init_164 (v := nI 0) (by decide) ?_
    refine tw_lconst C2 dX11_init_165 (v := lN 0) (by decide) ?_
    refine tw_callV (As := [.int (nI 0), .int (bI false), .long (lN 0)]) (rest := []) C2 N2 (c_X11_link hM MI_00 (i := 0) (by omega) (t := false) (u := 0) (by omega)) mm_X11_link wd_130 rfl (hM 114 (by decide) (by decide)) sh_114 rfl (by decide) rfl (Nat.le_of_ble_eq_true rfl) dX11_init_166 ?_
    intro v1 S1 h1
    rw [if_pos (by decide)] at h1
    refine tw_istore_n (L' := [(1, .int v1), (0, .ref (a0 + 0))]) C2 N2 dX11_init_169 rfl (by decide) rfl ?_
    refine tw_aload_n C2 dX11_init_170 1 rfl ?_
    refine tw_iconst C2 dX11_init_171 (v := nI 1) (by decide) ?_
    refine tw_iconst C2 dX11_init_172 (v := nI 0) (by decide) ?_
    refine tw_lconst C2 dX11_init_173 (v := lN 0) (by decide) ?_
    refine tw_callV (As := [.int (nI 1), .int (bI false), .long (lN 0)]) (rest := []) C2 N2 (c_X11_link hM h1.2 (i := 1) (by omega) (t := false) (u := 0) (by omega)) mm_X11_link wd_130 rfl (hM 114 (by decide) (by decide)) sh_114 rfl (by decide) rfl (Nat.le_of_ble_eq_true rfl) dX11_init_174 ?_
    intro v2 S2 h2
    rw [if_pos (by decide)] at h2
    refine tw_istore_n (L' := [(2, .int v2), (1, .int v1), (0, .ref (a0 + 0))]) C2 N2 dX11_init_177 rfl (by decide) rfl ?_
    intro H2 locs2 ls2 hW2 hS2 hl2
    obtain ⟨hr, hAA, hQ⟩ := Q
    have hS3 : va_S (fun q => a0 ≤ q) (tx_s X).heap H2 locs2 := hAA ▸ hS2
    have hQ2 : tx_Q X2 = _ := hQ
    unfold tx_W
    rw [hQ2]
    exact W.vret C2.1 C2.2.1 hr (fun t ht hW' => ⟨⟨rfl, S2, h2.2, by rw [ht]; exact hW2⟩, hS3.F ht⟩) hS3.2.2 dX11_init_178 C2.lk
  exact h9 H locs ls hW hS hl
