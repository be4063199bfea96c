set_option maxRecDepth 100000 in
theorem eOK_96 : (List.range' 96 16).all (fun mi => (kLt mi).all (eOK mi)) = true := by decide +kernel
set_option maxRecDepth 100000 in
theorem eOK_112 : (List.range' 112 16).all (fun mi => (kLt mi).all (eOK mi)) = true := by decide +kernel
set_option maxRecDepth 100000 in
theorem eOK_128 : (List.range' 128 16).all (fun mi => (kLt mi).all (eOK mi)) = true := by decide +kernel
set_option maxRecDepth 100000 in
theorem eOK_144 : (List.range' 144 16).all (fun mi => (kLt mi).all (eOK mi)) = true := by decide +kernel
set_option maxRecDepth 100000 in
theorem eOK_160 : (List.range' 160 8).all (fun mi => (kLt mi).all (eOK mi)) = true := by decide +kernel
