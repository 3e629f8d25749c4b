theorem dL_1382 : decode code 1382 = .ok (.iadd, 1) := by decide +kernel
theorem dL_1383 : decode code 1383 = .ok (.iaload, 1) := by decide +kernel
theorem dL_1384 : decode code 1384 = .ok (.aload_n 0, 1) := by decide +kernel
theorem dL_1385 : decode code 1385 = .ok (.iload_n 3, 1) := by decide +kernel
theorem dL_1386 : decode code 1386 = .ok (.iconst 2, 1) := by decide +kernel
theorem dL_1387 : decode code 1387 = .ok (.iadd, 1) := by decide +kernel
theorem dL_1388 : decode code 1388 = .ok (.iaload, 1) := by decide +kernel
theorem dL_1389 : decode code 1389 = .ok (.aload_n 0, 1) := by decide +kernel
theorem dL_1390 : decode code 1390 = .ok (.iload_n 3, 1) := by decide +kernel
theorem dL_1391 : decode code 1391 = .ok (.iconst 3, 1) := by decide +kernel
theorem dL_1392 : decode code 1392 = .ok (.iadd, 1) := by decide +kernel
theorem dL_1393 : decode code 1393 = .ok (.iaload, 1) := by decide +kernel
theorem dL_1394 : decode code 1394 = .ok (.aload_n 0, 1) := by decide +kernel
theorem dL_1395 : decode code 1395 = .ok (.iload_n 3, 1) := by decide +kernel
theorem dL_1396 : decode code 1396 = .ok (.iconst 4, 1) := by decide +kernel
theorem dL_1397 : decode code 1397 = .ok (.iadd, 1) := by decide +kernel
theorem dL_1398 : decode code 1398 = .ok (.iaload, 1) := by decide +kernel
theorem dL_1399 : decode code 1399 = .ok (.invokevirtual 154, 3) := by decide +kernel
theorem dL_1402 : decode code 1402 = .ok (.aload_n 2, 1) := by decide +kernel
theorem dL_1403 : decode code 1403 = .ok (.aload_n 0, 1) := by decide +kernel
theorem dL_1404 : decode code 1404 = .ok (.iload_n 3, 1) := by decide +kernel
theorem dL_1405 : decode code 1405 = .ok (.iconst 1, 1) := by decide +kernel
theorem dL_1406 : decode code 1406 = .ok (.iadd, 1) := by decide +kernel
theorem dL_1407 : decode code 1407 = .ok (.iaload, 1) := by decide +kernel
theorem dL_1408 : decode code 1408 = .ok (.aload_n 0, 1) := by decide +kernel
theorem dL_1409 : decode code 1409 = .ok (.iload_n 3, 1) := by decide +kernel
theorem dL_1410 : decode code 1410 = .ok (.iconst 2, 1) := by decide +kernel
theorem dL_1411 : decode code 1411 = .ok (.iadd, 1) := by decide +kernel
theorem dL_1412 : decode code 1412 = .ok (.iaload, 1) := by decide +kernel
theorem dL_1413 : decode code 1413 = .ok (.aload_n 0, 1) := by decide +kernel
theorem dL_1414 : decode code 1414 = .ok (.iload_n 3, 1) := by decide +kernel
theorem dL_1415 : decode code 1415 = .ok (.iconst 3, 1) := by decide +kernel
theorem dL_1416 : decode code 1416 = .ok (.iadd, 1) := by decide +kernel
theorem dL_1417 : decode code 1417 = .ok (.iaload, 1) := by decide +kernel
theorem dL_1418 : decode code 1418 = .ok (.aload_n 0, 1) := by decide +kernel
theorem dL_1419 : decode code 1419 = .ok (.iload_n 3, 1) := by decide +kernel
theorem dL_1420 : decode code 1420 = .ok (.iconst 4, 1) := by decide +kernel
theorem dL_1421 : decode code 1421 = .ok (.iadd, 1) := by decide +kernel
theorem dL_1422 : decode code 1422 = .ok (.iaload, 1) := by decide +kernel
theorem dL_1423 : decode code 1423 = .ok (.invokevirtual 158, 3) := by decide +kernel
theorem dL_1426 : decode code 1426 = .ok (.if_icmp .eq 84, 3) := by decide +kernel
theorem dL_1431 : decode code 1431 = .ok (.aload_n 1, 1) := by decide +kernel
theorem dL_1432 : decode code 1432 = .ok (.aload_n 0, 1) := by decide +kernel
theorem dL_1433 : decode code 1433 = .ok (.iload_n 3, 1) := by decide +kernel
theorem dL_1434 : decode code 1434 = .ok (.iconst 1, 1) := by decide +kernel
theorem dL_1435 : decode code 1435 = .ok (.iadd, 1) := by decide +kernel
theorem dL_1436 : decode code 1436 = .ok (.iaload, 1) := by decide +kernel
theorem dL_1437 : decode code 1437 = .ok (.aload_n 0, 1) := by decide +kernel
theorem dL_1438 : decode code 1438 = .ok (.iload_n 3, 1) := by decide +kernel
theorem dL_1439 : decode code 1439 = .ok (.iconst 2, 1) := by decide +kernel
theorem dL_1440 : decode code 1440 = .ok (.iadd, 1) := by decide +kernel
theorem dL_1441 : decode code 1441 = .ok (.iaload, 1) := by decide +kernel
theorem dL_1442 : decode code 1442 = .ok (.aload_n 0, 1) := by decide +kernel
theorem dL_1443 : decode code 1443 = .ok (.iload_n 3, 1) := by decide +kernel
theorem dL_1444 : decode code 1444 = .ok (.iconst 3, 1) := by decide +kernel
theorem dL_1445 : decode code 1445 = .ok (.iadd, 1) := by decide +kernel
theorem dL_1446 : decode code 1446 = .ok (.iaload, 1) := by decide +kernel
theorem dL_1447 : decode code 1447 = .ok (.aload_n 0, 1) := by decide +kernel
theorem dL_1448 : decode code 1448 = .ok (.iload_n 3, 1) := by decide +kernel
theorem dL_1449 : decode code 1449 = .ok (.iconst 4, 1) := by decide +kernel
theorem dL_1450 : decode code 1450 = .ok (.iadd, 1) := by decide +kernel
theorem dL_1451 : decode code 1451 = .ok (.iaload, 1) := by decide +kernel
theorem dL_1452 : decode code 1452 = .ok (.invokevirtual 159, 3) := by decide +kernel
theorem dL_1455 : decode code 1455 = .ok (.aload_n 2, 1) := by decide +kernel
theorem dL_1456 : decode code 1456 = .ok (.aload_n 0, 1) := by decide +kernel
theorem dL_1457 : decode code 1457 = .ok (.iload_n 3, 1) := by decide +kernel
theorem dL_1458 : decode code 1458 = .ok (.iconst 1, 1) := by decide +kernel
theorem dL_1459 : decode code 1459 = .ok (.iadd, 1) := by decide +kernel
theorem dL_1460 : decode code 1460 = .ok (.iaload, 1) := by decide +kernel
theorem dL_1461 : decode code 1461 = .ok (.aload_n 0, 1) := by decide +kernel
theorem dL_1462 : decode code 1462 = .ok (.iload_n 3, 1) := by decide +kernel
theorem dL_1463 : decode code 1463 = .ok (.iconst 2, 1) := by decide +kernel
theorem dL_1464 : decode code 1464 = .ok (.iadd, 1) := by decide +kernel
theorem dL_1465 : decode code 1465 = .ok (.iaload, 1) := by decide +kernel
theorem dL_1466 : decode code 1466 = .ok (.aload_n 0, 1) := by decide +kernel
theorem dL_1467 : decode code 1467 = .ok (.iload_n 3, 1) := by decide +kernel
theorem dL_1468 : decode code 1468 = .ok (.iconst 3, 1) := by decide +kernel
theorem dL_1469 : decode code 1469 = .ok (.iadd, 1) := by decide +kernel
theorem dL_1470 : decode code 1470 = .ok (.iaload, 1) := by decide +kernel
theorem dL_1471 : decode code 1471 = .ok (.aload_n 0, 1) := by decide +kernel
theorem dL_1472 : decode code 1472 = .ok (.iload_n 3, 1) := by decide +kernel
theorem dL_1473 : decode code 1473 = .ok (.iconst 4, 1) := by decide +kernel
theorem dL_1474 : decode code 1474 = .ok (.iadd, 1) := by decide +kernel
theorem dL_1475 : decode code 1475 = .ok (.iaload, 1) := by decide +kernel
theorem dL_1476 : decode code 1476 = .ok (.invokevirtual 162, 3) := by decide +kernel
theorem dL_1479 : decode code 1479 = .ok (.if_icmp .eq 31, 3) := by decide +kernel
theorem dL_1484 : decode code 1484 = .ok (.aload_n 1, 1) := by decide +kernel
theorem dL_1485 : decode code 1485 = .ok (.invokevirtual 163, 3) := by decide +kernel
theorem dL_1488 : decode code 1488 = .ok (.aload_n 2, 1) := by decide +kernel
theorem dL_1489 : decode code 1489 = .ok (.invokevirtual 166, 3) := by decide +kernel
theorem dL_1492 : decode code 1492 = .ok (.if_icmp .eq 18, 3) := by decide +kernel
theorem dL_1497 : decode code 1497 = .ok (.aload_n 1, 1) := by decide +kernel
theorem dL_1498 : decode code 1498 = .ok (.invokevirtual 167, 3) := by decide +kernel
theorem dL_1501 : decode code 1501 = .ok (.aload_n 2, 1) := by decide +kernel
theorem dL_1502 : decode code 1502 = .ok (.invokevirtual 170, 3) := by decide +kernel
theorem dL_1505 : decode code 1505 = .ok (.if_icmp .eq 5, 3) := by decide +kernel
theorem dL_1510 : decode code 1510 = .ok (.iinc 3 8, 3) := by decide +kernel
theorem dL_1513 : decode code 1513 = .ok (.goto (-1495), 3) := by decide +kernel
theorem dL_1516 : decode code 1516 = .ok (.iconst 1, 1) := by decide +kernel
theorem dL_1517 : decode code 1517 = .ok (.ireturn, 1) := by decide +kernel
