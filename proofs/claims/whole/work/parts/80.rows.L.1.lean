theorem d_L_law_1390 : pm_D e_L_law 1390 1 (.iadd) 1391 := ⟨by decide +kernel, rfl⟩
theorem d_L_law_1391 : pm_D e_L_law 1391 1 (.iaload) 1392 := ⟨by decide +kernel, rfl⟩
theorem d_L_law_1392 : pm_kV e_L_law 1392 e_X9_need RX9 2 1395 := ⟨142, by decide +kernel, rfl, fit_L_law_X9_need, wm_687, Or.inl ⟨wm_686, wm_688⟩⟩
theorem d_L_law_1395 : pm_i e_L_law 1395 .aload_n .aload 2 1396 := Or.inl ⟨2, by decide +kernel, rfl, rfl⟩
theorem d_L_law_1396 : pm_i e_L_law 1396 .aload_n .aload 0 1397 := Or.inl ⟨0, by decide +kernel, rfl, rfl⟩
theorem d_L_law_1397 : pm_i e_L_law 1397 .iload_n .iload 3 1398 := Or.inl ⟨3, by decide +kernel, rfl, rfl⟩
theorem d_L_law_1398 : pm_P e_L_law 1398 1 1399 := Or.inl ⟨1, by decide +kernel, by decide +kernel, rfl⟩
theorem d_L_law_1399 : pm_D e_L_law 1399 1 (.iadd) 1400 := ⟨by decide +kernel, rfl⟩
theorem d_L_law_1400 : pm_D e_L_law 1400 1 (.iaload) 1401 := ⟨by decide +kernel, rfl⟩
theorem d_L_law_1401 : pm_i e_L_law 1401 .aload_n .aload 0 1402 := Or.inl ⟨0, by decide +kernel, rfl, rfl⟩
theorem d_L_law_1402 : pm_i e_L_law 1402 .iload_n .iload 3 1403 := Or.inl ⟨3, by decide +kernel, rfl, rfl⟩
theorem d_L_law_1403 : pm_P e_L_law 1403 2 1404 := Or.inl ⟨2, by decide +kernel, by decide +kernel, rfl⟩
theorem d_L_law_1404 : pm_D e_L_law 1404 1 (.iadd) 1405 := ⟨by decide +kernel, rfl⟩
theorem d_L_law_1405 : pm_D e_L_law 1405 1 (.iaload) 1406 := ⟨by decide +kernel, rfl⟩
theorem d_L_law_1406 : pm_kV e_L_law 1406 e_X10_need RX10 2 1409 := ⟨145, by decide +kernel, rfl, fit_L_law_X10_need, wm_1080, Or.inl ⟨wm_1079, wm_1081⟩⟩
theorem d_L_law_1409 : pm_B e_L_law 1409 (fun z => .if_icmp .eq z) 1529 1412 := ⟨120, by decide +kernel, by decide, rfl⟩
theorem d_L_law_1412 : pm_P e_L_law 1412 0 1413 := Or.inl ⟨0, by decide +kernel, by decide +kernel, rfl⟩
theorem d_L_law_1413 : pm_D e_L_law 1413 1 (.ireturn) 1414 := ⟨by decide +kernel, rfl⟩
theorem d_L_law_1414 : pm_i e_L_law 1414 .aload_n .aload 1 1415 := Or.inl ⟨1, by decide +kernel, rfl, rfl⟩
theorem d_L_law_1415 : pm_kV e_L_law 1415 e_X9_asked RX9 0 1418 := ⟨146, by decide +kernel, rfl, fit_L_law_X9_asked, wm_692, Or.inl ⟨wm_691, wm_693⟩⟩
theorem d_L_law_1418 : pm_i e_L_law 1418 .aload_n .aload 2 1419 := Or.inl ⟨2, by decide +kernel, rfl, rfl⟩
theorem d_L_law_1419 : pm_kV e_L_law 1419 e_X10_asked RX10 0 1422 := ⟨150, by decide +kernel, rfl, fit_L_law_X10_asked, wm_1085, Or.inl ⟨wm_1084, wm_1086⟩⟩
theorem d_L_law_1422 : pm_D e_L_law 1422 1 (.lcmp) 1423 := ⟨by decide +kernel, rfl⟩
theorem d_L_law_1423 : pm_B e_L_law 1423 (fun z => .ifCond .eq z) 1529 1426 := ⟨106, by decide +kernel, by decide, rfl⟩
theorem d_L_law_1426 : pm_P e_L_law 1426 0 1427 := Or.inl ⟨0, by decide +kernel, by decide +kernel, rfl⟩
theorem d_L_law_1427 : pm_D e_L_law 1427 1 (.ireturn) 1428 := ⟨by decide +kernel, rfl⟩
theorem d_L_law_1428 : pm_i e_L_law 1428 .aload_n .aload 1 1429 := Or.inl ⟨1, by decide +kernel, rfl, rfl⟩
theorem d_L_law_1429 : pm_kV e_L_law 1429 e_X9_upper RX9 0 1432 := ⟨151, by decide +kernel, rfl, fit_L_law_X9_upper, wm_696, Or.inl ⟨wm_695, wm_697⟩⟩
theorem d_L_law_1432 : pm_i e_L_law 1432 .aload_n .aload 2 1433 := Or.inl ⟨2, by decide +kernel, rfl, rfl⟩
theorem d_L_law_1433 : pm_kV e_L_law 1433 e_X10_upper RX10 0 1436 := ⟨154, by decide +kernel, rfl, fit_L_law_X10_upper, wm_1089, Or.inl ⟨wm_1088, wm_1090⟩⟩
theorem d_L_law_1436 : pm_D e_L_law 1436 1 (.lcmp) 1437 := ⟨by decide +kernel, rfl⟩
theorem d_L_law_1437 : pm_B e_L_law 1437 (fun z => .ifCond .eq z) 1529 1440 := ⟨92, by decide +kernel, by decide, rfl⟩
theorem d_L_law_1440 : pm_P e_L_law 1440 0 1441 := Or.inl ⟨0, by decide +kernel, by decide +kernel, rfl⟩
theorem d_L_law_1441 : pm_D e_L_law 1441 1 (.ireturn) 1442 := ⟨by decide +kernel, rfl⟩
theorem d_L_law_1442 : pm_i e_L_law 1442 .aload_n .aload 1 1443 := Or.inl ⟨1, by decide +kernel, rfl, rfl⟩
theorem d_L_law_1443 : pm_kV e_L_law 1443 e_X9_lower RX9 0 1446 := ⟨155, by decide +kernel, rfl, fit_L_law_X9_lower, wm_700, Or.inl ⟨wm_699, wm_701⟩⟩
theorem d_L_law_1446 : pm_i e_L_law 1446 .aload_n .aload 2 1447 := Or.inl ⟨2, by decide +kernel, rfl, rfl⟩
theorem d_L_law_1447 : pm_kV e_L_law 1447 e_X10_lower RX10 0 1450 := ⟨158, by decide +kernel, rfl, fit_L_law_X10_lower, wm_1093, Or.inl ⟨wm_1092, wm_1094⟩⟩
theorem d_L_law_1450 : pm_D e_L_law 1450 1 (.lcmp) 1451 := ⟨by decide +kernel, rfl⟩
theorem d_L_law_1451 : pm_B e_L_law 1451 (fun z => .ifCond .eq z) 1529 1454 := ⟨78, by decide +kernel, by decide, rfl⟩
theorem d_L_law_1454 : pm_P e_L_law 1454 0 1455 := Or.inl ⟨0, by decide +kernel, by decide +kernel, rfl⟩
theorem d_L_law_1455 : pm_D e_L_law 1455 1 (.ireturn) 1456 := ⟨by decide +kernel, rfl⟩
theorem d_L_law_1456 : pm_i e_L_law 1456 .aload_n .aload 1 1457 := Or.inl ⟨1, by decide +kernel, rfl, rfl⟩
theorem d_L_law_1457 : pm_i e_L_law 1457 .aload_n .aload 0 1458 := Or.inl ⟨0, by decide +kernel, rfl, rfl⟩
theorem d_L_law_1458 : pm_i e_L_law 1458 .iload_n .iload 3 1459 := Or.inl ⟨3, by decide +kernel, rfl, rfl⟩
theorem d_L_law_1459 : pm_P e_L_law 1459 1 1460 := Or.inl ⟨1, by decide +kernel, by decide +kernel, rfl⟩
theorem d_L_law_1460 : pm_D e_L_law 1460 1 (.iadd) 1461 := ⟨by decide +kernel, rfl⟩
theorem d_L_law_1461 : pm_D e_L_law 1461 1 (.iaload) 1462 := ⟨by decide +kernel, rfl⟩
theorem d_L_law_1462 : pm_kV e_L_law 1462 e_X9_count RX9 1 1465 := ⟨159, by decide +kernel, rfl, fit_L_law_X9_count, wm_704, Or.inl ⟨wm_703, wm_705⟩⟩
theorem d_L_law_1465 : pm_i e_L_law 1465 .aload_n .aload 2 1466 := Or.inl ⟨2, by decide +kernel, rfl, rfl⟩
theorem d_L_law_1466 : pm_i e_L_law 1466 .aload_n .aload 0 1467 := Or.inl ⟨0, by decide +kernel, rfl, rfl⟩
theorem d_L_law_1467 : pm_i e_L_law 1467 .iload_n .iload 3 1468 := Or.inl ⟨3, by decide +kernel, rfl, rfl⟩
theorem d_L_law_1468 : pm_P e_L_law 1468 1 1469 := Or.inl ⟨1, by decide +kernel, by decide +kernel, rfl⟩
theorem d_L_law_1469 : pm_D e_L_law 1469 1 (.iadd) 1470 := ⟨by decide +kernel, rfl⟩
theorem d_L_law_1470 : pm_D e_L_law 1470 1 (.iaload) 1471 := ⟨by decide +kernel, rfl⟩
theorem d_L_law_1471 : pm_kV e_L_law 1471 e_X10_count RX10 1 1474 := ⟨162, by decide +kernel, rfl, fit_L_law_X10_count, wm_1097, Or.inl ⟨wm_1096, wm_1098⟩⟩
theorem d_L_law_1474 : pm_B e_L_law 1474 (fun z => .if_icmp .eq z) 1529 1477 := ⟨55, by decide +kernel, by decide, rfl⟩
theorem d_L_law_1477 : pm_P e_L_law 1477 0 1478 := Or.inl ⟨0, by decide +kernel, by decide +kernel, rfl⟩
theorem d_L_law_1478 : pm_D e_L_law 1478 1 (.ireturn) 1479 := ⟨by decide +kernel, rfl⟩
theorem d_L_law_1479 : pm_i e_L_law 1479 .aload_n .aload 1 1480 := Or.inl ⟨1, by decide +kernel, rfl, rfl⟩
theorem d_L_law_1480 : pm_kV e_L_law 1480 e_X9_finding RX9 0 1483 := ⟨163, by decide +kernel, rfl, fit_L_law_X9_finding, wm_716, Or.inl ⟨wm_715, wm_717⟩⟩
theorem d_L_law_1483 : pm_i e_L_law 1483 .aload_n .aload 2 1484 := Or.inl ⟨2, by decide +kernel, rfl, rfl⟩
theorem d_L_law_1484 : pm_kV e_L_law 1484 e_X10_finding RX10 0 1487 := ⟨167, by decide +kernel, rfl, fit_L_law_X10_finding, wm_1101, Or.inl ⟨wm_1100, wm_1102⟩⟩
theorem d_L_law_1487 : pm_B e_L_law 1487 (fun z => .if_icmp .eq z) 1529 1490 := ⟨42, by decide +kernel, by decide, rfl⟩
theorem d_L_law_1490 : pm_P e_L_law 1490 0 1491 := Or.inl ⟨0, by decide +kernel, by decide +kernel, rfl⟩
theorem d_L_law_1491 : pm_D e_L_law 1491 1 (.ireturn) 1492 := ⟨by decide +kernel, rfl⟩
theorem d_L_law_1492 : pm_i e_L_law 1492 .aload_n .aload 1 1493 := Or.inl ⟨1, by decide +kernel, rfl, rfl⟩
theorem d_L_law_1493 : pm_i e_L_law 1493 .aload_n .aload 0 1494 := Or.inl ⟨0, by decide +kernel, rfl, rfl⟩
theorem d_L_law_1494 : pm_i e_L_law 1494 .iload_n .iload 3 1495 := Or.inl ⟨3, by decide +kernel, rfl, rfl⟩
theorem d_L_law_1495 : pm_P e_L_law 1495 1 1496 := Or.inl ⟨1, by decide +kernel, by decide +kernel, rfl⟩
theorem d_L_law_1496 : pm_D e_L_law 1496 1 (.iadd) 1497 := ⟨by decide +kernel, rfl⟩
theorem d_L_law_1497 : pm_D e_L_law 1497 1 (.iaload) 1498 := ⟨by decide +kernel, rfl⟩
theorem d_L_law_1498 : pm_kV e_L_law 1498 e_X9_findings RX9 1 1501 := ⟨168, by decide +kernel, rfl, fit_L_law_X9_findings, wm_720, Or.inl ⟨wm_719, wm_721⟩⟩
theorem d_L_law_1501 : pm_i e_L_law 1501 .aload_n .aload 2 1502 := Or.inl ⟨2, by decide +kernel, rfl, rfl⟩
theorem d_L_law_1502 : pm_i e_L_law 1502 .aload_n .aload 0 1503 := Or.inl ⟨0, by decide +kernel, rfl, rfl⟩
theorem d_L_law_1503 : pm_i e_L_law 1503 .iload_n .iload 3 1504 := Or.inl ⟨3, by decide +kernel, rfl, rfl⟩
theorem d_L_law_1504 : pm_P e_L_law 1504 1 1505 := Or.inl ⟨1, by decide +kernel, by decide +kernel, rfl⟩
theorem d_L_law_1505 : pm_D e_L_law 1505 1 (.iadd) 1506 := ⟨by decide +kernel, rfl⟩
theorem d_L_law_1506 : pm_D e_L_law 1506 1 (.iaload) 1507 := ⟨by decide +kernel, rfl⟩
theorem d_L_law_1507 : pm_kV e_L_law 1507 e_X10_findings RX10 1 1510 := ⟨171, by decide +kernel, rfl, fit_L_law_X10_findings, wm_1105, Or.inl ⟨wm_1104, wm_1106⟩⟩
theorem d_L_law_1510 : pm_B e_L_law 1510 (fun z => .if_icmp .eq z) 1529 1513 := ⟨19, by decide +kernel, by decide, rfl⟩
theorem d_L_law_1513 : pm_P e_L_law 1513 0 1514 := Or.inl ⟨0, by decide +kernel, by decide +kernel, rfl⟩
theorem d_L_law_1514 : pm_D e_L_law 1514 1 (.ireturn) 1515 := ⟨by decide +kernel, rfl⟩
theorem d_L_law_1515 : pm_i e_L_law 1515 .aload_n .aload 1 1516 := Or.inl ⟨1, by decide +kernel, rfl, rfl⟩
theorem d_L_law_1516 : pm_kV e_L_law 1516 e_X9_digest RX9 0 1519 := ⟨172, by decide +kernel, rfl, fit_L_law_X9_digest, wm_724, Or.inl ⟨wm_723, wm_725⟩⟩
theorem d_L_law_1519 : pm_i e_L_law 1519 .aload_n .aload 2 1520 := Or.inl ⟨2, by decide +kernel, rfl, rfl⟩
theorem d_L_law_1520 : pm_kV e_L_law 1520 e_X10_digest RX10 0 1523 := ⟨175, by decide +kernel, rfl, fit_L_law_X10_digest, wm_1109, Or.inl ⟨wm_1108, wm_1110⟩⟩
theorem d_L_law_1523 : pm_D e_L_law 1523 1 (.lcmp) 1524 := ⟨by decide +kernel, rfl⟩
theorem d_L_law_1524 : pm_B e_L_law 1524 (fun z => .ifCond .eq z) 1529 1527 := ⟨5, by decide +kernel, by decide, rfl⟩
theorem d_L_law_1527 : pm_P e_L_law 1527 0 1528 := Or.inl ⟨0, by decide +kernel, by decide +kernel, rfl⟩
theorem d_L_law_1528 : pm_D e_L_law 1528 1 (.ireturn) 1529 := ⟨by decide +kernel, rfl⟩
theorem d_L_law_1529 : pm_I e_L_law 1529 3 6 1532 := ⟨6, by decide +kernel, by decide +kernel, rfl⟩
theorem d_L_law_1532 : pm_B e_L_law 1532 (fun z => .goto z) 18 1535 := ⟨-1514, by decide +kernel, by decide, rfl⟩
theorem d_L_law_1535 : pm_P e_L_law 1535 1 1536 := Or.inl ⟨1, by decide +kernel, by decide +kernel, rfl⟩
theorem d_L_law_1536 : pm_D e_L_law 1536 1 (.ireturn) 1537 := ⟨by decide +kernel, rfl⟩
